import java.util.Random;

/** SZC, S, C, A, MOV, SOC and their byte forms, against the document's words; the OPERANDS. */
public final class TwoOperandTest {
    private static final int[] BYTES = {0, 1, 2, 0x0F, 0x10, 0x55, 0x7E, 0x7F, 0x80, 0x81, 0xAA, 0xFE, 0xFF};
    private static final int[] WORDS = {0, 1, 2, 0xFF, 0x100, 0x5555, 0x7FFE, 0x7FFF, 0x8000, 0x8001, 0xAAAA,
        0xFFFE, 0xFFFF};

    public static void main(String[] args) {
        Random random = new Random(7);
        for (int kind = 2; kind < 8; kind++) {
            for (int a = 0; a < BYTES.length; a++) {
                for (int b = 0; b < BYTES.length; b++) {
                    bytes(kind, BYTES[a], BYTES[b], random.nextInt(65536));
                    words(kind, WORDS[a], WORDS[b], random.nextInt(65536));
                }
            }
            for (int i = 0; i < 500; i++) {
                bytes(kind, random.nextInt(256), random.nextInt(256), random.nextInt(65536));
                words(kind, random.nextInt(65536), random.nextInt(65536), random.nextInt(65536));
            }
        }
        modes();
        byteModes();
        sourceFirst();
        increments();
        rom();
        readsTheGoal();
        Bench.finish();
    }

    private static void bytes(int kind, int source, int goal, int status) {
        Bench bench = Bench.with(kind << 13 | 0x1000 | 2 << 6 | 1);
        bench.words(1, Bench.WP + 2, source << 8 | 0x5A, goal << 8 | 0xA5).status(status).run(1);
        String what = "byte " + kind + " of " + source + ", " + goal;
        int w = result(kind, source, goal) & 255;
        bench.dueRegister(what, 1, source << 8 | 0x5A);
        bench.dueRegister(what, 2, (kind == 4 ? goal : w) << 8 | 0xA5);
        int st = status(kind, source, goal, 256, status & 0xFE0F) & ~Bench.P;
        int ones = Integer.bitCount(kind == 4 ? source : w);
        bench.dueStatus(what, ones % 2 == 1 ? st | Bench.P : st);
    }

    private static void words(int kind, int source, int goal, int status) {
        Bench bench = Bench.with(kind << 13 | 2 << 6 | 1);
        bench.words(1, Bench.WP + 2, source, goal).status(status).run(1);
        String what = "word " + kind + " of " + source + ", " + goal;
        bench.dueRegister(what, 1, source);
        bench.dueRegister(what, 2, kind == 4 ? goal : result(kind, source, goal) & 0xFFFF);
        bench.dueStatus(what, status(kind, source, goal, 65536, status & 0xFE0F));
    }

    private static int result(int kind, int source, int goal) {
        switch (kind) {
            case 2: return goal & ~source;
            case 3: return goal - source;
            case 5: return goal + source;
            case 6: return source;
            default: return goal | source;
        }
    }

    private static int signed(int value, int size) {
        return value >= size / 2 ? value - size : value;
    }

    private static int with(int status, int flag, boolean on) {
        return on ? status | flag : status & ~flag;
    }

    private static int status(int kind, int source, int goal, int size, int status) {
        int a = kind == 4 ? source : result(kind, source, goal) & (size - 1);
        int b = kind == 4 ? goal : 0;
        int st = with(status, Bench.L, a > b);
        st = with(st, Bench.G, signed(a, size) > signed(b, size));
        st = with(st, Bench.E, a == b);
        if (kind == 5) {
            int sum = signed(goal, size) + signed(source, size);
            st = with(st, Bench.C, goal + source >= size);
            st = with(st, Bench.V, sum >= size / 2 || sum < -size / 2);
        }
        if (kind == 3) {
            int rest = signed(goal, size) - signed(source, size);
            st = with(st, Bench.C, goal >= source);
            st = with(st, Bench.V, rest >= size / 2 || rest < -size / 2);
        }
        return st;
    }

    private static void modes() {
        Bench registers = Bench.with(0xC0C5).register(5, 0x1234).run(1);
        registers.dueRegister("T 0", 3, 0x1234);
        Bench indirect = Bench.with(0xC4D5).register(5, 0x2001).register(3, 0x2010);
        indirect.words(1, 0x2000, 0x4321).run(1).dueWord("T 1", 0x2010, 0x4321);
        indirect.dueRegister("T 1", 5, 0x2001).dueRegister("T 1", 3, 0x2010);
        Bench absolute = Bench.with(0xC820, 0x2000, 0x2011).words(1, 0x2000, 0x4321);
        absolute.register(0, 0x0100).run(1).dueWord("T 2, n 0", 0x2010, 0x4321).duePc("T 2", 0x0106);
        Bench indexed = Bench.with(0xC8E5, 0x0010, 0xFFF0).register(5, 0x2000).register(3, 0x2034);
        indexed.words(1, 0x2010, 0x1357).run(1).dueWord("T 2, n not 0, goes round", 0x2024, 0x1357);
        Bench increment = Bench.with(0xCCF5).register(5, 0x2000).register(3, 0xFFFE);
        increment.words(1, 0x2000, 0x9876).run(1).dueWord("T 3", 0xFFFE, 0x9876);
        increment.dueRegister("T 3", 5, 0x2002).dueRegister("T 3 goes round", 3, 0);
    }

    private static void byteModes() {
        Bench indirect = Bench.with(0xD4D5).register(5, 0x2001).register(3, 0x2010);
        indirect.bytes(1, 0x2000, 0x11, 0x22).words(1, 0x2010, 0x7788).run(1);
        indirect.dueWord("the byte at that very address", 0x2010, 0x2288);
        Bench odd = Bench.with(0xD815, 0x2011).register(5, 0x2000).bytes(1, 0x2000, 0x11, 0x22);
        odd.words(1, 0x2010, 0x7788).run(1).dueWord("to the odd one", 0x2010, 0x7711);
        Bench increment = Bench.with(0xDCF5).register(5, 0x2001).register(3, 0xFFFF);
        increment.bytes(1, 0x2001, 0x33).run(1).dueRegister("T 3", 5, 0x2002).dueRegister("T 3", 3, 0);
        Bench.due("T 3", increment.box.peek(0xFFFF), 0x33);
    }

    private static void sourceFirst() {
        Bench same = Bench.with(0xCC75).register(5, 0x2000).register(1, 0x2010);
        same.words(1, 0x2000, 0x1111, 0x2222).run(1).dueWord("source", 0x2010, 0x1111);
        Bench twice = Bench.with(0xCD75).register(5, 0x2000);
        twice.words(1, 0x2000, 0x1111, 0x2222).run(1).dueWord("*R5+,*R5+", 0x2002, 0x1111);
        twice.dueRegister("*R5+,*R5+", 5, 0x2004);
        Bench words = Bench.with(0xA820, 0x2000, 0x2002).words(1, 0x2000, 3, 4).run(1);
        words.dueWord("the source's WORD comes first", 0x2002, 7).dueWord("source", 0x2000, 3);
    }

    private static void increments() {
        Bench self = Bench.with(0xC0B1).register(1, Bench.WP + 2).run(1);
        self.dueRegister("one reads what is 2 more already", 2, Bench.WP + 4);
        Bench goal = Bench.with(0xC071).register(1, 0x2000).words(1, 0x2000, 0x7070).run(1);
        goal.dueRegister("MOV *R1+,R1", 1, 0x7070);
        Bench before = Bench.with(0xCC41).register(1, 0x2000).run(1);
        before.dueWord("MOV R1,*R1+: the source was got first", 0x2000, 0x2000);
        before.dueRegister("MOV R1,*R1+", 1, 0x2002);
    }

    private static void rom() {
        Bench bench = Bench.with(0xC801, 0x0100).register(1, 0x4444).run(1);
        bench.dueWord("ROM is not written", 0x0100, 0xC801).dueStatus("but compared", Bench.L | Bench.G);
        Bench hole = Bench.with(0xC801, 0x4000, 0xC0A0, 0x4000).register(1, 5).register(2, 9).run(2);
        hole.dueRegister("nothing is there", 2, 0);
    }

    private static void readsTheGoal() {
        int[] kinds = {0x4801, 0x5801, 0x6801, 0x7801, 0x8801, 0x9801, 0xA801, 0xB801, 0xC801, 0xD801, 0xE801, 0xF801};
        for (int kind : kinds) {
            Bench bench = Bench.with(kind, 0x8800).run(1);
            Bench.due(Integer.toHexString(kind) + " reads the goal once", bench.box.picture(0), 1);
        }
        Bench order = Bench.with(0x8820, 0x8800, 0x8800).bytes(2, 0, 5, 6);
        order.bytes(1, 0x8C02, 0).bytes(1, 0x8C02, 0).run(1);
        order.dueStatus("C of 5 and 6", 0);
        Bench.due("C reads both", order.box.picture(0), 3);
    }
}
