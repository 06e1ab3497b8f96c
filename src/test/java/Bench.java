/** A box on a bench: shorthands for the tests, and the count of wrong answers. */
final class Bench {
    static final int WP = 0x8300;
    static final int PC = 0x0100;
    static final int L = 0x8000;
    static final int G = 0x4000;
    static final int E = 0x2000;
    static final int C = 0x1000;
    static final int V = 0x0800;
    static final int P = 0x0400;
    static final int X = 0x0200;

    private static int wrong = 0;
    private static int asked = 0;

    final WorkspaceBox box = new WorkspaceBox();

    static void due(String what, long got, long want) {
        asked++;
        if (got != want) {
            wrong++;
            System.out.println(what + " answered " + got + " (" + Long.toHexString(got) + "), due is "
                + want + " (" + Long.toHexString(want) + ")");
        }
    }

    static void due(String what, boolean got, boolean want) {
        due(what, got ? 1 : 0, want ? 1 : 0);
    }

    static void finish() {
        System.out.println(asked + " answers, " + wrong + " wrong");
        if (wrong != 0 || asked == 0) {
            System.exit(1);
        }
    }

    /** A box that has been reset to PC 0x0100 and WP 0x8300, with a program in ROM. */
    static Bench with(int... program) {
        Bench bench = new Bench();
        bench.words(0, 0, WP, PC);
        bench.words(0, PC, program);
        bench.box.reset();
        return bench;
    }

    /** The same with a program at 0xA000 in RAM, set by set(). */
    static Bench inRam(int... program) {
        Bench bench = new Bench();
        bench.words(1, 0xA000, program);
        bench.box.set(0, 0xA000);
        bench.box.set(1, WP);
        return bench;
    }

    Bench bytes(int area, int address, int... values) {
        for (int from = 0; from < values.length; from += 20) {
            int[] numbers = new int[5];
            int count = Math.min(20, values.length - from);
            for (int i = 0; i < count; i++) {
                numbers[i / 4] |= (values[from + i] & 255) << (24 - 8 * (i % 4));
            }
            due("feed", box.feed(numbers[0], numbers[1], numbers[2], numbers[3], numbers[4]), 20);
            due("end", box.end(count), count);
            due("load", box.load(area, address + from), count);
        }
        return this;
    }

    Bench words(int area, int address, int... values) {
        int[] all = new int[2 * values.length];
        for (int i = 0; i < values.length; i++) {
            all[2 * i] = values[i] >> 8 & 255;
            all[2 * i + 1] = values[i] & 255;
        }
        return bytes(area, address, all);
    }

    /** Gives a REGISTER of the workspace at 0x8300 a number. */
    Bench register(int n, int value) {
        return words(1, WP + 2 * n, value);
    }

    Bench status(int value) {
        due("set", box.set(2, value), true);
        return this;
    }

    Bench run(int n) {
        return run(n, n);
    }

    Bench run(int n, int want) {
        due("run", box.run(n), want);
        return this;
    }

    int word(int address) {
        return box.peek(address) << 8 | box.peek(address + 1);
    }

    Bench dueRegister(String what, int n, int want) {
        due(what + ": REGISTER " + n, box.state(16 + n), want);
        return this;
    }

    Bench dueStatus(String what, int want) {
        due(what + ": ST", box.state(2), want);
        return this;
    }

    Bench duePc(String what, int want) {
        due(what + ": PC", box.state(0), want);
        return this;
    }

    Bench dueWord(String what, int address, int want) {
        due(what + ": WORD at " + Integer.toHexString(address), word(address), want);
        return this;
    }
}
