import java.util.Random;

/** COC, CZC, XOR, MPY, DIV, shifts, jumps. */
public final class RegisterTest {
    private static final int ALL = 0xFE0F;

    public static void main(String[] args) {
        Random random = new Random(11);
        for (int i = 0; i < 400; i++) {
            bitwise(random.nextInt(65536) & random.nextInt(65536) & random.nextInt(65536), random.nextInt(65536));
            multiply(random.nextInt(65536), random.nextInt(65536));
            divide(random.nextInt(65536), random.nextInt(65536), random.nextInt(65536));
        }
        bitwise(0, 0);
        bitwise(0xFFFF, 0xFFFF);
        bitwise(0xFFFF, 0);
        multiply(0xFFFF, 0xFFFF);
        multiply(0, 0xFFFF);
        multiply(0x8000, 2);
        divisions();
        lastRegister();
        shifts();
        jumps();
        Bench.finish();
    }

    private static int zero(int status, int w) {
        int st = status & ~(Bench.L | Bench.G | Bench.E);
        return st | (w == 0 ? Bench.E : w < 0x8000 ? Bench.L | Bench.G : Bench.L);
    }

    private static Bench bench(int word, int source, int goal, int behind, int status) {
        Bench bench = Bench.with(word | 0x20 | 6 << 6, 0x2000).words(1, 0x2000, source);
        return bench.words(1, Bench.WP + 12, goal, behind).status(status).run(1);
    }

    private static void bitwise(int source, int goal) {
        String what = source + ", " + goal;
        for (int status = 0; status <= ALL; status += ALL) {
            boolean ones = (goal | source) == goal;
            Bench coc = bench(0x2000, source, goal, 0, status).dueRegister("COC", 6, goal);
            coc.dueStatus("COC " + what, ones ? status | Bench.E : status & ~Bench.E);
            boolean zeros = (goal & source) == 0;
            Bench czc = bench(0x2400, source, goal, 0, status).dueRegister("CZC", 6, goal);
            czc.dueStatus("CZC " + what, zeros ? status | Bench.E : status & ~Bench.E);
            Bench xor = bench(0x2800, source, goal, 0, status).dueRegister("XOR", 6, goal ^ source);
            xor.dueStatus("XOR " + what, zero(status, goal ^ source));
        }
    }

    private static void multiply(int source, int goal) {
        long product = (long) source * goal;
        Bench bench = bench(0x3800, source, goal, 0x7777, ALL).dueStatus("MPY", ALL);
        bench.dueRegister("MPY", 6, (int) (product >> 16)).dueRegister("MPY", 7, (int) (product & 0xFFFF));
        bench.dueWord("the source stays", 0x2000, source);
    }

    private static void divide(int source, int higher, int lower) {
        String what = "DIV " + higher + " " + lower + " by " + source;
        boolean over = source <= higher;
        for (int status = 0; status <= ALL; status += ALL) {
            Bench bench = bench(0x3C00, source, higher, lower, status);
            bench.dueStatus(what, over ? status | Bench.V : status & ~Bench.V);
            long all = higher * 65536L + lower;
            bench.dueRegister(what, 6, over ? higher : (int) (all / source));
            bench.dueRegister(what, 7, over ? lower : (int) (all % source));
        }
    }

    private static void divisions() {
        divide(0, 0, 0);
        divide(0, 0, 9);
        divide(0, 0xFFFF, 0xFFFF);
        divide(1, 0, 0xFFFF);
        divide(1, 1, 0);
        divide(0xFFFF, 0xFFFE, 0xFFFF);
        divide(0xFFFF, 0xFFFF, 0);
        divide(0x8000, 0x7FFF, 0xFFFF);
        divide(0x8001, 0x8000, 0);
    }

    private static void lastRegister() {
        Bench bench = Bench.with(0x3BC1).register(1, 0x1234).register(15, 0x5678).run(1);
        bench.dueRegister("MPY", 15, 0x1234 * 0x5678 >>> 16);
        bench.dueWord("the WORD behind REGISTER 15", Bench.WP + 32, 0x1234 * 0x5678 & 0xFFFF);
        Bench divided = Bench.with(0x3FC1).register(1, 10).register(15, 0).words(1, Bench.WP + 32, 123);
        divided.run(1).dueRegister("DIV", 15, 12).dueWord("the WORD behind", Bench.WP + 32, 3);
    }

    private static void shifts() {
        int[] values = {0, 1, 0x8000, 0xFFFF, 0x7FFF, 0x4000, 0xC000, 0xE001, 0xA5C3, 0x1234};
        for (int value : values) {
            for (int kind = 8; kind < 12; kind++) {
                for (int by = 0; by < 16; by++) {
                    shift(kind, value, by, 0x3450, by == 0 ? 16 : by);
                    shift(kind, value, 0, 0xFFF0 | by, by == 0 ? 16 : by);
                }
                Bench zero = Bench.with(kind << 8).register(0, 0x8103).run(1);
                zero.dueRegister("REGISTER 0 by itself", 0, shifted(kind, 0x8103, 3));
            }
        }
    }

    private static int shifted(int kind, int value, int steps) {
        switch (kind) {
            case 8: return (short) value >> steps & 0xFFFF;
            case 9: return value >> steps;
            case 10: return value << steps & 0xFFFF;
            default: return (value << 16 | value) >>> steps & 0xFFFF;
        }
    }

    private static void shift(int kind, int value, int by, int zero, int steps) {
        String what = "shift " + kind + " of " + value + " by " + steps;
        int w = shifted(kind, value, steps);
        int gone = kind == 10 ? value >> 16 - steps & 1 : value >> steps - 1 & 1;
        boolean turned = false;
        for (int step = 0; step < steps; step++) {
            turned |= (value << step & 0x8000) != (value << step + 1 & 0x8000);
        }
        for (int status = 0; status <= ALL; status += ALL) {
            Bench bench = Bench.with(kind << 8 | by << 4 | 5).register(0, zero).register(5, value);
            bench.status(status).run(1).dueRegister(what, 5, w);
            int st = zero(status, w) & ~Bench.C | gone * Bench.C;
            bench.dueStatus(what, kind != 10 ? st : turned ? st | Bench.V : st & ~Bench.V);
        }
    }

    private static boolean jumps(int kind, int st) {
        boolean l = st >> 15 == 1;
        boolean g = (st >> 14 & 1) == 1;
        boolean e = (st >> 13 & 1) == 1;
        boolean c = (st >> 12 & 1) == 1;
        boolean v = (st >> 11 & 1) == 1;
        boolean p = (st >> 10 & 1) == 1;
        boolean[] due = {true, !(g || e), !l || e, e, l || e, g, !e, !c, c, !v, !(l || e), l && !e, p};
        return due[kind - 0x10];
    }

    private static void jumps() {
        for (int kind = 0x10; kind < 0x1D; kind++) {
            for (int flags = 0; flags < 128; flags++) {
                int st = flags << 9;
                Bench bench = Bench.with(kind << 8 | 0x05).status(st).run(1).dueStatus("a jump", st);
                bench.duePc("jump " + kind + " at " + st, jumps(kind, st) ? 0x010C : 0x0102);
            }
        }
        Bench.with(0x107F).run(1).duePc("127", 0x0102 + 254);
        Bench.with(0x1080).run(1).duePc("-128", 0x0002);
        Bench.with(0x1000).run(1).duePc("0", 0x0102);
        Bench round = new Bench().words(0, 0, 0x10FE);
        round.box.set(0, 0);
        round.run(1).duePc("it goes round", 0xFFFE);
    }
}
