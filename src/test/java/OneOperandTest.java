/** The instructions with T n alone, and those with a REGISTER and a WORD. */
public final class OneOperandTest {
    private static final int ALL = 0xFE0F;
    private static final int[] VALUES = {0, 1, 2, 3, 0xFF, 0x100, 0x1234, 0x7FFD, 0x7FFE, 0x7FFF, 0x8000, 0x8001,
        0x8002, 0xFFFD, 0xFFFE, 0xFFFF};

    public static void main(String[] args) {
        for (int value : VALUES) {
            plain(value);
            adding(value);
            negating(value);
            absolute(value);
            immediates(value);
        }
        branches();
        reading();
        control();
        unlookedBits();
        Bench.finish();
    }

    private static int zero(int status, int w) {
        int st = status & ~(Bench.L | Bench.G | Bench.E);
        return st | (w == 0 ? Bench.E : w < 0x8000 ? Bench.L | Bench.G : Bench.L);
    }

    private static int flag(int status, int flag, boolean on) {
        return on ? status | flag : status & ~flag;
    }

    private static void check(int word, int value, int w, int onAll, int onNone) {
        String what = Integer.toHexString(word) + " of " + Integer.toHexString(value);
        Bench all = Bench.with(word | 3).register(3, value).status(ALL).run(1);
        all.dueRegister(what, 3, w).dueStatus(what, onAll).duePc(what, 0x0102);
        Bench none = Bench.with(word | 0x20, 0x2001).words(1, 0x2000, value).status(0).run(1);
        none.dueWord(what, 0x2000, w).dueStatus(what, onNone).duePc(what, 0x0104);
    }

    private static void plain(int value) {
        check(0x04C0, value, 0, ALL, 0);
        check(0x0700, value, 0xFFFF, ALL, 0);
        check(0x06C0, value, (value & 255) << 8 | value >> 8, ALL, 0);
        int inverted = 0xFFFF - value;
        check(0x0540, value, inverted, zero(ALL, inverted), zero(0, inverted));
    }

    private static void adding(int value) {
        int[] words = {0x0580, 0x05C0, 0x0600, 0x0640};
        int[] numbers = {1, 2, -1, -2};
        for (int i = 0; i < 4; i++) {
            int w = value + numbers[i] & 0xFFFF;
            int sum = (short) value + numbers[i];
            boolean carry = value + (numbers[i] & 0xFFFF) > 0xFFFF;
            boolean over = sum > 32767 || sum < -32768;
            int onAll = flag(flag(zero(ALL, w), Bench.C, carry), Bench.V, over);
            int onNone = flag(flag(zero(0, w), Bench.C, carry), Bench.V, over);
            check(words[i], value, w, onAll, onNone);
        }
    }

    private static void negating(int value) {
        int w = -value & 0xFFFF;
        int onAll = flag(flag(zero(ALL, w), Bench.C, value == 0), Bench.V, value == 0x8000);
        int onNone = flag(flag(zero(0, w), Bench.C, value == 0), Bench.V, value == 0x8000);
        check(0x0500, value, w, onAll, onNone);
    }

    private static void absolute(int value) {
        int w = value < 0x8000 ? value : 0x10000 - value;
        int onAll = flag(flag(zero(ALL, value), Bench.C, false), Bench.V, value == 0x8000);
        int onNone = flag(zero(0, value), Bench.V, value == 0x8000);
        check(0x0740, value, w, onAll, onNone);
    }

    private static void immediate(int word, int value, int given, int w, int status) {
        for (int bit4 = 0; bit4 < 32; bit4 += 16) {
            String what = Integer.toHexString(word) + " of " + value + ", " + given;
            Bench bench = Bench.with(word | bit4 | 7, given).register(7, value).status(ALL).run(1);
            bench.dueRegister(what, 7, w).dueStatus(what, status).duePc(what, 0x0104);
        }
    }

    private static void immediates(int value) {
        for (int given : VALUES) {
            immediate(0x0200, value, given, given, zero(ALL, given));
            immediate(0x0240, value, given, value & given, zero(ALL, value & given));
            immediate(0x0260, value, given, value | given, zero(ALL, value | given));
            int sum = value + given & 0xFFFF;
            int signed = (short) value + (short) given;
            int st = flag(zero(ALL, sum), Bench.C, value + given > 0xFFFF);
            immediate(0x0220, value, given, sum, flag(st, Bench.V, signed != (short) signed));
            int compared = flag(ALL, Bench.L, value > given);
            compared = flag(compared, Bench.G, (short) value > (short) given);
            immediate(0x0280, value, given, value, flag(compared, Bench.E, value == given));
        }
    }

    private static void branches() {
        Bench.with(0x0460, 0x2001).status(ALL).run(1).duePc("B", 0x2000).dueStatus("B", ALL);
        Bench.with(0x0455).register(5, 0x1235).run(1).duePc("B *R5", 0x1234);
        Bench.with(0x0445).run(1).duePc("B R5", 0x830A);
        Bench plus = Bench.with(0x0475).register(5, 0x1235).run(1).duePc("B *R5+", 0x1234);
        plus.dueRegister("B *R5+", 5, 0x1237);
        Bench call = Bench.with(0x06A0, 0x2001).status(ALL).run(1).duePc("BL", 0x2000);
        call.dueRegister("BL", 11, 0x0104).dueStatus("BL", ALL);
        Bench self = Bench.with(0x069B).register(11, 0x3000).run(1).duePc("BL *R11", 0x3000);
        self.dueRegister("BL *R11", 11, 0x0102);
    }

    private static void reading() {
        int[] read = {0x04E0, 0x0520, 0x0560, 0x05A0, 0x05E0, 0x0620, 0x0660, 0x06E0, 0x0720, 0x0760};
        for (int word : read) {
            Bench bench = Bench.with(word, 0x8800).run(1);
            Bench.due(Integer.toHexString(word) + " reads", bench.box.picture(0), 1);
        }
        int[] unread = {0x0460, 0x06A0};
        for (int word : unread) {
            Bench bench = Bench.with(word, 0x8800).run(1);
            Bench.due(Integer.toHexString(word) + " does not read", bench.box.picture(0), 0);
        }
        Bench written = Bench.with(0x0760, 0x8C00).bytes(2, 0, 5).run(1);
        Bench.due("ABS writes its size", written.box.vram(0), 0);
        Bench set = Bench.with(0x0720, 0x8C00).run(1);
        Bench.due("SETO writes", set.box.vram(0), 255);
        Bench immediate = Bench.with(0x0200, 5);
        immediate.box.set(1, 0x8800);
        immediate.run(1);
        Bench.due("LI reads no REGISTER", immediate.box.picture(0), 0);
    }

    private static void control() {
        Bench stwp = Bench.with(0x02B4).status(ALL).run(1).dueRegister("STWP", 4, Bench.WP);
        stwp.dueStatus("STWP", ALL);
        Bench.with(0x02D4).status(ALL).run(1).dueRegister("STST", 4, ALL);
        Bench lwpi = Bench.with(0x02E0, 0x2001, 0x02A1).run(2).dueRegister("LWPI", 1, 0x2000);
        Bench.due("WP", lwpi.box.state(1), 0x2000);
        Bench.with(0x0300, 0xFFF7).status(0xFE08).run(1).dueStatus("LIMI", 0xFE07).duePc("LIMI", 0x0104);
        Bench.with(0x0360).status(ALL).run(1).dueStatus("RSET", 0xFE00).duePc("RSET", 0x0102);
        Bench back = Bench.with(0x0380).register(13, 0x2001).register(14, 0x0201).register(15, 0xFFFF);
        back.run(1).duePc("RTWP", 0x0200).dueStatus("RTWP", ALL);
        Bench.due("WP", back.box.state(1), 0x2000);
        int[] nothing = {0x03A0, 0x03C0, 0x03E0, 0x03BF, 0x03DF, 0x03FF};
        for (int word : nothing) {
            Bench bench = Bench.with(word).status(0xAA05).run(1).dueStatus("nothing", 0xAA05);
            bench.duePc("nothing", 0x0102);
            Bench.due("it runs", bench.box.state(3), 0);
            Bench.due("it is done", bench.box.state(4), 1);
        }
    }

    private static void unlookedBits() {
        Bench lwpi = Bench.with(0x02FF, 0x2000).run(1);
        Bench.due("LWPI", lwpi.box.state(1), 0x2000);
        Bench.with(0x031F, 9).run(1).dueStatus("LIMI", 9);
        Bench idle = Bench.with(0x035F).run(1);
        Bench.due("IDLE", idle.box.state(3), 1);
        Bench.with(0x037F).status(15).run(1).dueStatus("RSET", 0);
        Bench.with(0x039F).register(14, 0x0500).run(1).duePc("RTWP", 0x0500);
    }
}
