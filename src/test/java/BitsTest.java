/** Promises 15, 16 and 17: key, out, in; SBO, SBZ, TB, LDCR, STCR. */
public final class BitsTest {
    public static void main(String[] args) {
        wrongOnes();
        keys();
        singleBits();
        goesRound();
        tested();
        sentBits();
        comingBits();
        operands();
        readAhead();
        Bench.finish();
    }

    private static void wrongOnes() {
        WorkspaceBox box = new WorkspaceBox();
        int[] none = {-1, 4096, Integer.MIN_VALUE, Integer.MAX_VALUE};
        for (int bit : none) {
            Bench.due("out(" + bit + ")", box.out(bit), -1);
            Bench.due("in(" + bit + ")", box.in(bit), -1);
        }
        Bench.due("out(4095)", box.out(4095), 0);
        Bench.due("in(4095)", box.in(4095), 0);
        int[] keys = {-1, 8, 9, Integer.MIN_VALUE, Integer.MAX_VALUE};
        for (int key : keys) {
            Bench.due("column " + key, box.key(key, 0, true), false);
            Bench.due("row " + key, box.key(0, key, true), false);
            Bench.due("row " + key, box.key(0, key, false), false);
        }
        for (int bit = 3; bit < 11; bit++) {
            Bench.due("no key is down", box.in(bit), 1);
        }
    }

    private static void keys() {
        for (int column = 0; column < 8; column++) {
            Bench bench = Bench.with(0x30C0).register(12, 36).register(0, column << 8);
            bench.run(1);
            for (int row = 0; row < 8; row++) {
                Bench.due("key", bench.box.key(column, row, true), true);
                Bench.due("another", bench.box.key((column + 1) % 8, (row + 1) % 8, true), true);
                for (int bit = 3; bit < 11; bit++) {
                    Bench.due("column " + column + ", row " + row, bench.box.in(bit), bit - 3 == row ? 0 : 1);
                }
                Bench.due("key", bench.box.key(column, row, false), true);
                Bench.due("up", bench.box.in(3 + row), 1);
            }
        }
        Bench bench = new Bench();
        bench.box.key(0, 2, true);
        bench.box.key(0, 2, true);
        Bench.due("down twice", bench.box.in(5), 0);
        bench.box.key(0, 2, false);
        Bench.due("up once", bench.box.in(5), 1);
    }

    private static void singleBits() {
        Bench bench = Bench.with(0x1D05, 0x1DFF, 0x1D7F, 0x1D80, 0x1E05, 0x1EFF).register(12, 0x0401);
        bench.status(0xFE00).run(4);
        Bench.due("d 5", bench.box.out(0x205), 1);
        Bench.due("d -1", bench.box.out(0x1FF), 1);
        Bench.due("d 127", bench.box.out(0x27F), 1);
        Bench.due("d -128", bench.box.out(0x180), 1);
        Bench.due("comes in", bench.box.in(0x180), 1);
        bench.run(2).dueStatus("SBO and SBZ leave ST", 0xFE00);
        Bench.due("SBZ", bench.box.out(0x205), 0);
        Bench.due("SBZ", bench.box.out(0x1FF), 0);
        Bench.due("others stay", bench.box.out(0x27F), 1);
        int count = 0;
        for (int bit = 0; bit < 4096; bit++) {
            count += bench.box.out(bit);
        }
        Bench.due("as many are 1", count, 2);
    }

    private static void goesRound() {
        Bench bench = Bench.with(0x1DFF, 0x1D01).register(12, 0xE000).run(2);
        Bench.due("BASE modulo 4096", bench.box.out(4095), 1);
        Bench.due("BASE modulo 4096", bench.box.out(1), 1);
        Bench many = Bench.with(0x3000).register(0, 0x8001).register(12, 0x1FFC).run(1);
        Bench.due("the lowest", many.box.out(4094), 1);
        Bench.due("the second", many.box.out(4095), 0);
        Bench.due("the highest goes round", many.box.out(13), 1);
        Bench back = Bench.with(0x3000, 0x3401).register(0, 0x8001).register(12, 0x1FFC).run(2);
        back.dueRegister("bits 4094 to 13, of which 2 to 10 come in else", 1, 0x8001 | 0x1FF << 4);
    }

    private static void tested() {
        Bench bench = Bench.with(0x1F02, 0x1F02, 0x1F14, 0x1D14, 0x1F14).status(0xDE0F).run(1);
        bench.dueStatus("bit 2 without F", 0xFE0F);
        bench.box.frame();
        bench.run(1).dueStatus("bit 2 with F", 0xDE0F);
        bench.status(0xFE0F).run(1).dueStatus("bit 20", 0xDE0F);
        bench.run(2).dueStatus("bit 20 went out", 0xFE0F);
    }

    private static void sentBits() {
        for (int count = 1; count <= 16; count++) {
            int value = 0xB5A9;
            Bench bench = Bench.with(0x3001 | (count & 15) << 6).register(1, value).register(12, 200);
            bench.words(1, 0x8302, value).status(0x1A03).run(1);
            int had = count <= 8 ? value >> 8 : value;
            for (int i = -1; i < 18; i++) {
                Bench.due("LDCR " + count + ", bit " + i, bench.box.out(100 + i),
                    i < 0 || i >= count ? 0 : had >> i & 1);
            }
            int parity = count <= 8 && Integer.bitCount(had) % 2 == 1 ? Bench.P : 0;
            bench.dueStatus("LDCR " + count, 0x1A03 | Bench.L | parity);
            bench.dueRegister("it stays", 1, value);
        }
        Bench zero = Bench.with(0x3201).register(1, 0x00FF).status(0x0400).run(1);
        zero.dueStatus("LDCR of a byte 0", Bench.E);
        Bench word = Bench.with(0x3241).register(1, 0x00FF).status(0x0400).run(1);
        word.dueStatus("LDCR of a WORD", Bench.L | Bench.G | Bench.P);
        Bench clears = Bench.with(0x3001, 0x04C1, 0x30C1).register(1, 0xFFFF).register(12, 200).run(3);
        for (int i = 0; i < 16; i++) {
            Bench.due("cleared bit " + i, clears.box.out(100 + i), i < 3 ? 0 : 1);
        }
    }

    private static void comingBits() {
        for (int count = 1; count <= 16; count++) {
            int value = 0xB5A9;
            Bench bench = Bench.with(0x3001, 0x3402 | (count & 15) << 6);
            bench.register(1, value).register(2, 0x7777).register(12, 200).run(1).status(0x1E03).run(1);
            int in = value & (1 << count) - 1;
            bench.dueRegister("STCR " + count, 2, count <= 8 ? in << 8 | 0x77 : in);
            int parity = count > 8 ? Bench.P : Integer.bitCount(in) % 2 == 1 ? Bench.P : 0;
            int sign = count <= 8 ? (byte) in : (short) in;
            bench.dueStatus("STCR " + count, 0x1A03 | Bench.L | (sign > 0 ? Bench.G : 0) | parity);
        }
        Bench zero = Bench.with(0x3442).register(2, 0xFFFF).register(12, 200).run(1);
        zero.dueRegister("STCR of 0", 2, 0x00FF).dueStatus("STCR of 0", Bench.E);
    }

    private static void operands() {
        Bench bytes = Bench.with(0x3231, 0x3672).register(1, 0x2001).register(2, 0x2011).register(12, 200);
        bytes.bytes(1, 0x2000, 0x11, 0x9C, 0x33).bytes(1, 0x2010, 0x44, 0x55, 0x66).run(2);
        bytes.dueRegister("8 bits: 1 more", 1, 0x2002).dueRegister("9 bits: 2 more", 2, 0x2013);
        Bench.due("the byte at that very address", bytes.box.out(102), 1);
        Bench.due("the byte at that very address", bytes.box.out(100), 0);
        bytes.dueWord("a WORD", 0x2010, 0x009C).dueWord("behind it", 0x2012, 0x6600);
        Bench base = Bench.with(0x307C).register(12, 0x2000).bytes(1, 0x2000, 1).run(1);
        base.dueRegister("REGISTER 12", 12, 0x2001);
        Bench.due("BASE of what REGISTER 12 is then", base.box.out(0), 1);
        Bench self = Bench.with(0x340C).register(12, 200).run(1);
        self.dueRegister("STCR to REGISTER 12", 12, 0);
    }

    private static void readAhead() {
        Bench bench = Bench.with(0x34E0, 0x8800).bytes(2, 0, 7).run(1);
        Bench.due("STCR reads ahead", bench.box.picture(0), 1);
        Bench.due("STCR reads ahead", bench.box.picture(1), 7);
        Bench status = Bench.with(0x3060, 0x8802);
        status.box.frame();
        status.run(1).dueStatus("LDCR of STATUS", Bench.L | Bench.P);
        Bench.due("F", status.box.picture(3), 0);
    }
}
