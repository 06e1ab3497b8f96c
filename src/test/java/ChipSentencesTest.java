import java.util.NoSuchElementException;

/** For each sentence of promises 10 to 18 that names a boundary case, a test of its own. */
public final class ChipSentencesTest {
    private static final int LEAST = Integer.MIN_VALUE;
    private static final int MOST = Integer.MAX_VALUE;
    private static final int NONE = WorkspaceBox.NONE;

    public static void main(String[] args) {
        registersOfThePicture();
        noneForOtherPictures();
        bytesOfVram();
        noSuchByteOfVram();
        gromAndNoneForOthers();
        aPictureWasShown();
        levelsTwoToFifteen();
        aLevelIsToldOnce();
        aLevelWaits();
        keysOfAllColumnsAndRows();
        noSuchKey();
        whatWentOut();
        noSuchBit();
        howABitComesIn();
        colourOfAPixel();
        noSuchPixel();
        Bench.finish();
    }

    private static void due(String what, long got, long want) {
        Bench.due(what, got, want);
    }

    private static Bench control(Bench bench, int first, int second) {
        return bench.bytes(1, 0x8C02, first).bytes(1, 0x8C02, second);
    }

    // Promise 10: "8 + n REGISTER n"
    private static void registersOfThePicture() {
        Bench bench = new Bench();
        for (int n = 0; n < 8; n++) {
            control(bench, 0xF0 + n, 0x80 + n);
        }
        for (int n = 0; n < 8; n++) {
            due("REGISTER " + n, bench.box.picture(8 + n), 0xF0 + n);
        }
        due("ADDRESS", bench.box.picture(0), 0);
    }

    // Promise 10: "NONE for others."
    private static void noneForOtherPictures() {
        int[] wrong = {-1, -8, 4, 5, 6, 7, 16, 17, LEAST, MOST};
        for (int what : wrong) {
            due("picture(" + what + ")", new WorkspaceBox().picture(what), NONE);
        }
    }

    // Promise 11: "A byte of VRAM."
    private static void bytesOfVram() {
        Bench bench = new Bench().bytes(2, 0, 0xFF, 0x80).bytes(2, 16382, 0x7F, 0x81);
        due("vram(0)", bench.box.vram(0), 0xFF);
        due("vram(1)", bench.box.vram(1), 0x80);
        due("vram(2)", bench.box.vram(2), 0);
        due("vram(16381)", bench.box.vram(16381), 0);
        due("vram(16382)", bench.box.vram(16382), 0x7F);
        due("vram(16383)", bench.box.vram(16383), 0x81);
        due("it is not read by its PORT", bench.box.picture(0), 0);
    }

    // Promise 11: "NoSuchElementException: no such one."
    private static void noSuchByteOfVram() {
        int[] wrong = {-1, 16384, 16385, 65536, LEAST, MOST};
        for (int address : wrong) {
            boolean thrown = false;
            try {
                new WorkspaceBox().vram(address);
            } catch (NoSuchElementException e) {
                thrown = true;
            }
            Bench.due("vram(" + address + ") throws", thrown, true);
        }
    }

    // Promise 12: "NONE for others."
    private static void gromAndNoneForOthers() {
        int[] wrong = {-1, 3, 4, 8, 16, LEAST, MOST};
        for (int what : wrong) {
            due("grom(" + what + ")", new WorkspaceBox().grom(what), NONE);
        }
        Bench bench = new Bench().bytes(3, 0, 0xFE).bytes(1, 0x9C02, 0).bytes(1, 0x9C02, 0).bytes(1, 0x9C02, 0xFF);
        due("ADDRESS", bench.box.grom(0), 0xFF01);
        due("BUFFER", bench.box.grom(1), 0xFE);
        due("LATCH", bench.box.grom(2), 1);
    }

    // Promise 13: "A picture was shown: F is 1."
    private static void aPictureWasShown() {
        Bench bench = new Bench();
        bench.box.frame();
        bench.box.frame();
        due("F", bench.box.picture(3), 1);
        due("it HALTS still", bench.box.state(3), 2);
        bench.words(1, 0xA000, 0xD060, 0x8802, 0xD060, 0x8802);
        bench.box.set(0, 0xA000);
        bench.box.set(1, Bench.WP);
        bench.run(1).dueRegister("STATUS", 1, 0x8000);
        due("F is 0 then", bench.box.picture(3), 0);
        bench.run(1).dueRegister("two pictures are one F", 1, 0);
        bench.box.frame();
        due("F again", bench.box.picture(3), 1);
    }

    // Promise 14: "A level (2 to 15) is asked for."
    private static void levelsTwoToFifteen() {
        int[] wrong = {LEAST, -30, -1, 0, 1, 16, 17, 18, 34, 47, MOST};
        for (int level : wrong) {
            Bench bench = Bench.with(0x1000).status(15);
            Bench.due("interrupt(" + level + ")", bench.box.interrupt(level), false);
            bench.run(1);
            due("none comes", bench.box.state(5), 0);
        }
        for (int level = 2; level < 16; level++) {
            Bench bench = Bench.with(0x1000).words(0, 4 * level, 0x2000, 0x0200).words(0, 0x0200, 0x1000).status(level);
            Bench.due("interrupt(" + level + ")", bench.box.interrupt(level), true);
            bench.run(1).duePc("it comes", 0x0202).dueStatus("MASK", level - 1);
        }
    }

    // ==== 4: "when it is told so, till it is done"
    private static void aLevelIsToldOnce() {
        Bench bench = Bench.with(0x1000, 0x1000, 0x1000).words(0, 12, 0x2000, 0x0200).words(0, 0x0200, 0x0380);
        bench.status(15);
        bench.box.interrupt(3);
        bench.box.interrupt(3);
        bench.run(4);
        due("told twice, it comes once", bench.box.state(5), 1);
    }

    private static void aLevelWaits() {
        Bench bench = Bench.with(0x1000, 0, 0x1000).words(0, 60, 0x2000, 0x0200).words(0, 0x0200, 0x1000).run(9, 1);
        Bench.due("told while it HALTS", bench.box.interrupt(15), true);
        bench.run(9, 0);
        due("none comes while it HALTS", bench.box.state(5), 0);
        bench.box.set(0, 0x0104);
        bench.status(14).run(1);
        due("none above MASK", bench.box.state(5), 0);
        bench.status(15).run(1).duePc("it waited", 0x0202);
    }

    // Promise 15: "A KEY of a COLUMN and ROW (0 to 7 both) is down, or not."
    private static void keysOfAllColumnsAndRows() {
        Bench bench = Bench.with(0x30C1, 0x10FE).register(12, 36);
        for (int key = 0; key < 64; key += 9) {
            Bench.due("key", bench.box.key(key / 8, key % 8, true), true);
        }
        for (int column = 0; column < 8; column++) {
            bench.register(1, column << 8).run(2);
            for (int row = 0; row < 8; row++) {
                due("column " + column + ", row " + row, bench.box.in(3 + row), column == row ? 0 : 1);
            }
            due("not a ROW", bench.box.in(11), 0);
        }
        Bench.due("key", bench.box.key(7, 7, false), true);
        due("up", bench.box.in(10), 1);
        Bench.due("up twice", bench.box.key(7, 7, false), true);
        due("up", bench.box.in(10), 1);
    }

    private static void noSuchKey() {
        int[] wrong = {-1, 8, 9, 64, LEAST, MOST};
        for (int number : wrong) {
            WorkspaceBox box = new WorkspaceBox();
            Bench.due("column", box.key(number, 7, true), false);
            Bench.due("row", box.key(0, number, true), false);
            Bench.due("both", box.key(number, number, true), false);
            for (int bit = 3; bit <= 10; bit++) {
                due("no key is down", box.in(bit), 1);
            }
            box.key(0, 0, true);
            Bench.due("row", box.key(0, number, false), false);
            Bench.due("column", box.key(number, 0, false), false);
            due("it is down still", box.in(3), 0);
        }
    }

    // Promise 16: "What went OUT of a bit."; ==== 4: "(0 at first)"
    private static void whatWentOut() {
        Bench bench = Bench.with(0x1D00, 0x1DFF, 0x1E00, 0x1D02, 0x1D03, 0x1D0A);
        due("0 at first", bench.box.out(0) + bench.box.out(4095), 0);
        bench.run(2);
        due("out(0)", bench.box.out(0), 1);
        due("out(4095)", bench.box.out(4095), 1);
        due("out(1)", bench.box.out(1), 0);
        due("out(4094)", bench.box.out(4094), 0);
        bench.run(1);
        due("what went latest", bench.box.out(0), 0);
        bench.run(3);
        bench.box.frame();
        bench.box.key(0, 0, true);
        due("out(2) is not what comes in", bench.box.out(2), 1);
        due("out(3) is not what comes in", bench.box.out(3), 1);
        due("out(10)", bench.box.out(10), 1);
    }

    // Promises 16 and 17: "NONE: no such one."
    private static void noSuchBit() {
        int[] wrong = {-1, 4096, 4097, 8192, LEAST, MOST};
        for (int bit : wrong) {
            due("out(" + bit + ")", new WorkspaceBox().out(bit), NONE);
            due("in(" + bit + ")", new WorkspaceBox().in(bit), NONE);
        }
    }

    // Promise 17; ==== 4: "bit 2: 0 if F, else 1; 3 to 10: ..; others as they went OUT"
    private static void howABitComesIn() {
        Bench bench = Bench.with(0x3001, 0x3001).register(1, 0xFFFF).run(1);
        for (int bit = 0; bit < 20; bit++) {
            due("in(" + bit + ")", bench.box.in(bit), bit < 16 ? 1 : 0);
        }
        bench.box.frame();
        due("in(2) with F", bench.box.in(2), 0);
        due("asking leaves F", bench.box.picture(3), 1);
        bench.register(1, 0).run(1);
        for (int bit = 0; bit < 16; bit++) {
            due("in(" + bit + ")", bench.box.in(bit), bit >= 3 && bit <= 10 ? 1 : 0);
        }
    }

    // Promise 18; ==== 5
    private static void colourOfAPixel() {
        Bench bench = new Bench();
        control(control(control(bench, 64, 0x81), 0xF2, 0x82), 0x80, 0x83);
        control(control(bench, 0xFB, 0x84), 0xA6, 0x87);
        int names = 2 * 1024;
        int patterns = 3 * 2048;
        int colours = 0x80 * 64;
        int[][] at = {{0, 0, 0}, {31, 0, 7}, {0, 23, 8}, {31, 23, 255}};
        for (int[] row : at) {
            bench.bytes(2, names + 32 * row[1] + row[0], row[2]);
            bench.bytes(2, patterns + 8 * row[2], 0x80, 0, 0, 0, 0, 0, 0, 0x01);
        }
        bench.bytes(2, colours, 0x12, 0x34).bytes(2, colours + 31, 0x5F);
        int[][] want = {{0, 0, 1}, {1, 0, 2}, {7, 7, 1}, {6, 7, 2}, {0, 1, 2}, {248, 0, 1}, {255, 7, 1}, {254, 7, 2},
            {0, 184, 3}, {1, 184, 4}, {7, 191, 3}, {255, 191, 5}, {254, 191, 15}, {248, 184, 5}, {255, 190, 15}};
        for (int[] row : want) {
            due("pixel(" + row[0] + ", " + row[1] + ")", bench.box.pixel(row[0], row[1]), row[2]);
        }
        bench.bytes(2, colours, 0x02);
        due("upper four bits 0", bench.box.pixel(0, 0), 6);
        bench.bytes(2, colours, 0x10);
        due("lower four bits 0", bench.box.pixel(1, 0), 6);
        control(bench, 0xBF, 0x81);
        due("REGISTER 1's bit 6 is 0", bench.box.pixel(0, 0), 6);
        due("REGISTER 1's bit 6 is 0", bench.box.pixel(255, 191), 6);
        control(bench, 0xF0, 0x87);
        due("of 0", bench.box.pixel(255, 191), 0);
    }

    // Promise 18: "NONE: no such one."
    private static void noSuchPixel() {
        int[][] wrong = {{-1, 0}, {256, 0}, {0, -1}, {0, 192}, {255, 192}, {256, 191}, {LEAST, 0}, {0, LEAST},
            {MOST, 0}, {0, MOST}, {LEAST, MOST}};
        for (int[] row : wrong) {
            Bench shown = control(new Bench(), 64, 0x81);
            due("pixel(" + row[0] + ", " + row[1] + ")", shown.box.pixel(row[0], row[1]), NONE);
            due("not shown", new WorkspaceBox().pixel(row[0], row[1]), NONE);
        }
        due("pixel(255, 191)", new WorkspaceBox().pixel(255, 191), 0);
        due("pixel(0, 0)", new WorkspaceBox().pixel(0, 0), 0);
    }
}
