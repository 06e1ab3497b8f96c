/** Promises 5, 6, 7, 8 and 9: reset, run, state, peek, set. */
public final class RunTest {
    public static void main(String[] args) {
        resets();
        counts();
        wrongCounts();
        halts();
        sleeps();
        states();
        sets();
        peeks();
        addressesGoRound();
        Bench.finish();
    }

    private static void resets() {
        Bench bench = new Bench();
        bench.words(0, 0, 0x8321, 0x0203).status(0xFFFF);
        bench.box.interrupt(2);
        bench.box.frame();
        bench.box.reset();
        Bench.due("WP is even", bench.box.state(1), 0x8320);
        Bench.due("PC is even", bench.box.state(0), 0x0202);
        Bench.due("ST", bench.box.state(2), 0);
        Bench.due("it runs", bench.box.state(3), 0);
        Bench.due("F stays", bench.box.picture(3), 1);
        bench.words(0, 0x0202, 0x0300, 15, 0x1000, 0x1000);
        bench.run(3);
        Bench.due("told levels are forgotten", bench.box.state(5), 0);
        Bench.due("done ever", bench.box.state(4), 3);
        bench.box.reset();
        Bench.due("done ever stays", bench.box.state(4), 3);
    }

    private static void counts() {
        Bench bench = Bench.with(0x10FF);
        bench.run(0).run(1).run(2000).run(7);
        Bench.due("done ever", bench.box.state(4), 2008);
        bench.duePc("a loop", 0x0100);
    }

    private static void wrongCounts() {
        int[] wrong = {-1, 2001, Integer.MIN_VALUE, Integer.MAX_VALUE};
        for (int n : wrong) {
            Bench bench = Bench.with(0x10FF);
            boolean thrown = false;
            try {
                bench.box.run(n);
            } catch (IllegalArgumentException e) {
                thrown = true;
            }
            Bench.due("run(" + n + ") throws", thrown, true);
            Bench.due("and does nothing", bench.box.state(4), 0);
            thrown = false;
            try {
                new WorkspaceBox().run(n);
            } catch (IllegalArgumentException e) {
                thrown = true;
            }
            Bench.due("run(" + n + ") throws when it HALTS", thrown, true);
        }
    }

    private static void halts() {
        int[] none = {0x0000, 0x0001, 0x01FF, 0x0320, 0x033F, 0x0780, 0x07FF, 0x0C00, 0x0FFF};
        for (int word : none) {
            String what = Integer.toHexString(word);
            Bench bench = Bench.with(0x0200, 5, word);
            bench.run(10, 1).duePc(what, 0x0104);
            Bench.due(what + ": it HALTS", bench.box.state(3), 2);
            Bench.due(what + ": done ever", bench.box.state(4), 1);
            bench.run(10, 0);
            bench.box.set(0, 0x0100);
            Bench.due(what + ": set lets it run", bench.box.state(3), 0);
            bench.run(1);
        }
        int[] some = {0x0200, 0x031F, 0x0340, 0x077F, 0x0800, 0x0BFF, 0x1000, 0xFFFF};
        for (int word : some) {
            Bench bench = Bench.with(word, 0x8310, 0x8310);
            bench.run(1);
            Bench.due(Integer.toHexString(word) + " is done", bench.box.state(4), 1);
        }
        Bench woken = Bench.with(0x0300, 15, 0);
        woken.run(9, 1);
        woken.box.interrupt(3);
        woken.run(9, 0);
        Bench.due("no interrupt wakes what HALTS", woken.box.state(5), 0);
    }

    private static void sleeps() {
        Bench bench = Bench.with(0x0300, 3, 0x0340, 0x0200, 7);
        bench.words(0, 0x0C, 0x8340, 0x0200).words(0, 0x0200, 0x0380);
        bench.run(10, 2).duePc("IDLE", 0x0106);
        Bench.due("it sleeps", bench.box.state(3), 1);
        bench.run(10, 0);
        bench.box.interrupt(4);
        bench.run(10, 0);
        Bench.due("4 is above MASK", bench.box.state(3), 1);
        bench.box.interrupt(3);
        bench.run(0);
        Bench.due("run(0) does nothing", bench.box.state(3), 1);
        bench.run(2).dueRegister("behind RTWP", 0, 7);
        Bench.due("interrupts", bench.box.state(5), 1);
        Bench.due("it runs", bench.box.state(3), 0);
        Bench asleep = Bench.with(0x0340, 0x0200, 7);
        asleep.run(5, 1);
        asleep.box.set(2, 0);
        Bench.due("set wakes", asleep.box.state(3), 0);
        asleep.run(1).dueRegister("set wakes", 0, 7);
        asleep.box.reset();
        asleep.run(5, 1);
        asleep.box.reset();
        Bench.due("reset wakes", asleep.box.state(3), 0);
    }

    private static void states() {
        Bench bench = new Bench();
        for (int n = 0; n < 16; n++) {
            bench.words(1, 0xA010 + 2 * n, 0x1111 * n);
        }
        bench.box.set(1, 0xA010);
        for (int n = 0; n < 16; n++) {
            bench.dueRegister("state", n, 0x1111 * n);
        }
        int[] none = {-1, 6, 7, 15, 32, 33, Integer.MIN_VALUE, Integer.MAX_VALUE};
        for (int what : none) {
            Bench.due("state(" + what + ")", bench.box.state(what), -1);
        }
    }

    private static void sets() {
        Bench bench = new Bench();
        Bench.due("set PC", bench.box.set(0, 0x12345), true);
        Bench.due("PC", bench.box.state(0), 0x2344);
        Bench.due("it runs", bench.box.state(3), 0);
        Bench.due("set WP", bench.box.set(1, -1), true);
        Bench.due("WP", bench.box.state(1), 0xFFFE);
        Bench.due("set ST", bench.box.set(2, -1), true);
        Bench.due("ST", bench.box.state(2), 0xFE0F);
        Bench.due("set ST", bench.box.set(2, 0x100F0), true);
        Bench.due("ST", bench.box.state(2), 0);
        int[] none = {-1, 3, 4, 16, Integer.MIN_VALUE, Integer.MAX_VALUE};
        for (int what : none) {
            WorkspaceBox box = new WorkspaceBox();
            Bench.due("set(" + what + ")", box.set(what, 1), false);
            Bench.due("it HALTS still", box.state(3), 2);
        }
        for (int what = 0; what < 3; what++) {
            WorkspaceBox box = new WorkspaceBox();
            box.set(what, 0);
            Bench.due("it runs", box.state(3), 0);
        }
    }

    private static void peeks() {
        Bench bench = new Bench();
        int[] none = {-1, 65536, Integer.MIN_VALUE, Integer.MAX_VALUE};
        for (int address : none) {
            Bench.due("peek(" + address + ")", bench.box.peek(address), -1);
        }
        bench.bytes(1, 0x8012, 0xAB);
        for (int address = 0x8012; address < 0x8400; address += 0x100) {
            Bench.due("PAD four times", bench.box.peek(address), 0xAB);
        }
        Bench.due("no fifth PAD", bench.box.peek(0x8412), 0);
        bench.bytes(1, 0x83FF, 0xCD);
        Bench.due("PAD", bench.box.peek(0x80FF), 0xCD);
        bench.bytes(2, 0, 0x77).bytes(1, 0x8C02, 0).bytes(1, 0x8C02, 0);
        bench.box.frame();
        Bench.due("BUFFER", bench.box.picture(1), 0x77);
        for (int address = 0x8400; address < 0xA000; address++) {
            Bench.due("PORTS are 0", bench.box.peek(address), 0);
        }
        Bench.due("and are not read", bench.box.picture(0), 1);
        Bench.due("and are not read", bench.box.picture(3), 1);
        bench.bytes(1, 0x4000, 1).bytes(1, 0x7FFE, 1).bytes(1, 0x8400, 1).bytes(1, 0x9FFE, 1);
        Bench.due("0x4000", bench.box.peek(0x4000), 0);
        Bench.due("0x7FFE", bench.box.peek(0x7FFE), 0);
        bench.bytes(1, 0x2000, 1).bytes(1, 0x3FFF, 2).bytes(1, 0xA000, 3).bytes(1, 0xFFFF, 4);
        Bench.due("0x2000", bench.box.peek(0x2000), 1);
        Bench.due("0x3FFF", bench.box.peek(0x3FFF), 2);
        Bench.due("0xA000", bench.box.peek(0xA000), 3);
        Bench.due("0xFFFF", bench.box.peek(0xFFFF), 4);
    }

    private static void addressesGoRound() {
        Bench bench = new Bench();
        bench.words(0, 0, 0x1234).words(1, 0xFFFE, 0x0201);
        bench.box.set(0, 0xFFFE);
        bench.box.set(1, 0xFFFE);
        bench.run(1).duePc("PC goes round", 2);
        bench.dueRegister("R1 is in ROM and is not written", 1, 0x1234);
        bench.dueRegister("R0", 0, 0x0201);
        bench.dueStatus("LI", Bench.L | Bench.G);
    }
}
