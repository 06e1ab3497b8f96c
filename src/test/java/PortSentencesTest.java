/** For each sentence of the Terms' parts 3 and 4 that names a boundary case, a test of its own. */
public final class PortSentencesTest {
    private static final int READ = 0x8800;
    private static final int STATUS = 0x8802;
    private static final int DATA = 0x8C00;
    private static final int CONTROL = 0x8C02;
    private static final int GROM = 0x9800;
    private static final int GROM_ADDRESS = 0x9802;
    private static final int GROM_DATA = 0x9C00;
    private static final int GROM_CONTROL = 0x9C02;

    public static void main(String[] args) {
        byTheHighestSixBitsAndBitOne();
        pictureAddressGoesRoundByReading();
        pictureAddressGoesRoundByWriting();
        pictureAddressGoesRoundByControl();
        theBufferIsOneBehind();
        latchOfThePicture();
        highestTwoBits();
        registerModuloEight();
        addressOfFourteenBits();
        statusHasFAlone();
        gromAddressGoesRound();
        gromHighestThreeBits();
        gromAddressRead();
        latchOfGrom();
        gromIsNotWritten();
        otherPorts();
        levelOneIsAskedForWhile();
        leastLevelNotAboveMask();
        whatWasToldIsDone();
        noneRightBehindOne();
        noneRightBehindBlwpAndXop();
        itIsNoInstruction();
        keysByTheColumnThatWentOut();
        Bench.finish();
    }

    private static void due(String what, long got, long want) {
        Bench.due(what, got, want);
    }

    /** Moves a byte from an address to REGISTER 1 by MOVB @address,R1. */
    private static int read(Bench bench, int address) {
        bench.words(1, 0xA000, 0xD060, address);
        bench.box.set(0, 0xA000);
        bench.box.set(1, Bench.WP);
        bench.run(1);
        return bench.box.state(17) >> 8;
    }

    private static Bench write(Bench bench, int address, int... values) {
        for (int value : values) {
            bench.bytes(1, address, value);
        }
        return bench;
    }

    private static void duePicture(String what, Bench bench, int address, int buffer, int full) {
        due(what + ": ADDRESS", bench.box.picture(0), address);
        due(what + ": BUFFER", bench.box.picture(1), buffer);
        due(what + ": LATCH", bench.box.picture(2), full);
    }

    private static void dueGrom(String what, Bench bench, int address, int buffer, int full) {
        due(what + ": ADDRESS", bench.box.grom(0), address);
        due(what + ": BUFFER", bench.box.grom(1), buffer);
        due(what + ": LATCH", bench.box.grom(2), full);
    }

    // "PORTS, by the address's highest 6 bits, then (of even addresses) bit 1"
    private static void byTheHighestSixBitsAndBitOne() {
        for (int low = 0; low < 0x0400; low += 62) {
            boolean second = (low & 2) != 0;
            Bench picture = write(new Bench(), 0x8C00 | low, 0x40);
            due("picture's write", picture.box.picture(second ? 2 : 0), 1);
            due("picture's write", picture.box.picture(second ? 0 : 2), 0);
            Bench shown = new Bench();
            shown.box.frame();
            due("picture's read", read(shown, 0x8800 | low), second ? 128 : 0);
            due("picture's read", shown.box.picture(0), second ? 0 : 1);
            Bench grom = write(new Bench(), 0x9C00 | low, 0x40);
            due("GROM's write", grom.box.grom(0), second ? 0x4000 : 0);
            Bench address = write(new Bench(), GROM_CONTROL, 0x12, 0x33);
            due("GROM's read", read(address, 0x9800 | low), second ? 0x12 : 0);
            due("GROM's read", address.box.grom(0), second ? 0x3434 : 0x1235);
        }
    }

    // "an ADDRESS (14 bits, it goes round)"
    private static void pictureAddressGoesRoundByReading() {
        Bench bench = new Bench().bytes(2, 0x3FFE, 0x71, 0x72).bytes(2, 0, 0x73);
        write(bench, CONTROL, 0xFE, 0x3F);
        duePicture("16382", bench, 0x3FFF, 0x71, 0);
        due("read", read(bench, READ), 0x71);
        duePicture("16383", bench, 0, 0x72, 0);
        due("read", read(bench, READ), 0x72);
        duePicture("0", bench, 1, 0x73, 0);
    }

    private static void pictureAddressGoesRoundByWriting() {
        Bench bench = write(new Bench(), CONTROL, 0xFF, 0x7F);
        duePicture("16383", bench, 0x3FFF, 0, 0);
        write(bench, DATA, 0x81);
        duePicture("written", bench, 0, 0x81, 0);
        write(bench, DATA, 0x82);
        duePicture("written", bench, 1, 0x82, 0);
        due("VRAM", bench.box.vram(0x3FFF), 0x81);
        due("VRAM", bench.box.vram(0), 0x82);
    }

    private static void pictureAddressGoesRoundByControl() {
        Bench bench = new Bench().bytes(2, 0x3FFF, 0x91);
        write(bench, CONTROL, 0xFF, 0x3F);
        duePicture("00 at 16383", bench, 0, 0x91, 0);
    }

    // "the BUFFER; then it is VRAM's byte at ADDRESS"
    private static void theBufferIsOneBehind() {
        Bench bench = new Bench().bytes(2, 0, 0x11, 0x12, 0x13);
        due("a new one's BUFFER", read(bench, READ), 0);
        due("then the first", read(bench, READ), 0x11);
        bench.bytes(2, 1, 0x99);
        due("VRAM changed behind the BUFFER", read(bench, READ), 0x12);
        write(bench, DATA, 0x55);
        due("what was written is in the BUFFER", read(bench, READ), 0x55);
        due("VRAM", bench.box.vram(3), 0x55);
    }

    // "the LATCH is empty", of each way that empties it; "LATCH empty: it has the byte; full: it is empty"
    private static void latchOfThePicture() {
        int[] first = {0, 1, 0x7F, 0x80, 0xFF};
        for (int value : first) {
            Bench full = write(new Bench(), CONTROL, value);
            duePicture("one byte", full, 0, 0, 1);
            write(full, CONTROL, 0x41);
            duePicture("two bytes", full, 0x0100 | value, 0, 0);
        }
        int[] emptying = {READ, STATUS};
        for (int address : emptying) {
            Bench bench = write(new Bench(), CONTROL, 0x12);
            read(bench, address);
            due("reading empties it", bench.box.picture(2), 0);
            write(bench, CONTROL, 0x34, 0x45);
            due("the next byte is a first one", bench.box.picture(0), 0x0534);
        }
        Bench written = write(write(new Bench(), CONTROL, 0x12), DATA, 0x77);
        due("writing empties it", written.box.picture(2), 0);
        write(written, CONTROL, 0x34, 0x45);
        due("the next byte is a first one", written.box.picture(0), 0x0534);
        Bench other = write(new Bench(), CONTROL, 0x12);
        write(other, GROM_CONTROL, 1, 2);
        read(other, GROM);
        other.box.frame();
        due("nothing else empties it", other.box.picture(2), 1);
    }

    // "of this byte's bits 7 6: 10: REGISTER ..; else ADDRESS .., and, if they are 00, as reading the BUFFER"
    private static void highestTwoBits() {
        int[] seconds = {0x00, 0x3F, 0x40, 0x7F, 0x80, 0xBF, 0xC0, 0xFF};
        for (int second : seconds) {
            Bench bench = new Bench().bytes(2, (second & 63) << 8 | 5, 0x66);
            write(bench, CONTROL, 5, second);
            int kind = second >> 6;
            int address = (second & 63) << 8 | 5;
            String what = Integer.toHexString(second);
            duePicture(what, bench, kind == 2 ? 0 : kind == 0 ? address + 1 : address, kind == 0 ? 0x66 : 0, 0);
            due(what + ": REGISTER", bench.box.picture(8 + (second & 7)), kind == 2 ? 5 : 0);
        }
    }

    // "REGISTER (byte modulo 8) is LATCH's"
    private static void registerModuloEight() {
        for (int second = 0x80; second < 0xC0; second++) {
            Bench bench = write(new Bench(), CONTROL, second ^ 0xFF, second);
            for (int n = 0; n < 8; n++) {
                due("REGISTER " + n, bench.box.picture(8 + n), n == second % 8 ? second ^ 0xFF : 0);
            }
        }
    }

    // "else ADDRESS is byte modulo 64 times 256 and LATCH's"
    private static void addressOfFourteenBits() {
        int[][] rows = {{0, 0x40, 0}, {0xFF, 0x40, 0xFF}, {0, 0x7F, 0x3F00}, {0xFF, 0x7F, 0x3FFF}, {1, 0xC0, 1},
            {0xFF, 0xFF, 0x3FFF}};
        for (int[] row : rows) {
            Bench bench = write(write(new Bench(), CONTROL, 0x55, 0x6A), CONTROL, row[0], row[1]);
            due("ADDRESS", bench.box.picture(0), row[2]);
        }
    }

    // "STATUS: F in bit 7, others 0; F is 0 then, the LATCH empty"
    private static void statusHasFAlone() {
        Bench bench = write(new Bench().bytes(2, 0, 0xFF), CONTROL, 0, 0);
        due("no F", read(bench, STATUS), 0);
        bench.box.frame();
        due("F", read(bench, STATUS), 0x80);
        due("F is 0 then", read(bench, STATUS), 0);
        duePicture("the rest stays", bench, 1, 0xFF, 0);
    }

    // "ADDRESS (16 bits; one more: of its lowest 13 bits, others stay)"
    private static void gromAddressGoesRound() {
        for (int high = 0; high < 8; high++) {
            Bench bench = new Bench().bytes(3, 0x1FFF, 0x61).bytes(3, 0, 0x62);
            write(bench, GROM_CONTROL, high << 5 | 0x1F, 0xFF);
            dueGrom("13 bits go round", bench, high << 13, high == 0 ? 0x61 : 0, 0);
            due("read", read(bench, GROM), high == 0 ? 0x61 : 0);
            dueGrom("and on", bench, high << 13 | 1, high == 0 ? 0x62 : 0, 0);
            write(bench, GROM_CONTROL, high << 5 | 0x1F, 0xFE);
            read(bench, GROM);
            due("reading goes round", bench.box.grom(0), high << 13);
        }
    }

    // "A byte at ADDRESS: GROM's, if its highest 3 bits are 0, else 0."
    private static void gromHighestThreeBits() {
        int[][] rows = {{0x00, 0x71}, {0x1F, 0x72}, {0x20, 0}, {0x3F, 0}, {0x40, 0}, {0x80, 0}, {0xE0, 0}, {0xFF, 0}};
        for (int[] row : rows) {
            Bench bench = new Bench().bytes(3, 0, 0x71).bytes(3, 0x1F00, 0x72);
            write(bench, GROM_CONTROL, row[0], 0);
            dueGrom("at " + row[0], bench, row[0] << 8 | 1, row[1], 0);
        }
    }

    // "the higher byte of ADDRESS, and it becomes its lower byte times 257 (each byte the lower one)"
    private static void gromAddressRead() {
        int[][] rows = {{0x00, 0x00}, {0x12, 0x34}, {0xFF, 0x00}, {0x00, 0xFF}, {0xFF, 0xFE}};
        for (int[] row : rows) {
            Bench bench = write(new Bench(), GROM_CONTROL, row[0], row[1] - 1 & 255);
            write(bench, GROM_CONTROL, row[0]);
            int lower = bench.box.grom(0) & 255;
            due("higher byte", read(bench, GROM_ADDRESS), row[0]);
            dueGrom("times 257", bench, lower * 257, 0, 0);
            due("lower byte", read(bench, GROM_ADDRESS), lower);
            dueGrom("times 257", bench, lower * 257, 0, 0);
        }
    }

    // "LATCH empty: it has the byte, ADDRESS's higher byte is it; full: empty, ADDRESS's lower byte is the byte"
    private static void latchOfGrom() {
        Bench bench = new Bench().bytes(3, 0x0102, 0x51, 0x52).bytes(3, 0x0903, 0x53);
        write(bench, GROM_CONTROL, 1);
        dueGrom("one byte", bench, 0x0100, 0, 1);
        write(bench, GROM_CONTROL, 2);
        dueGrom("two bytes", bench, 0x0103, 0x51, 0);
        write(bench, GROM_CONTROL, 9);
        dueGrom("one byte, the lower one stays", bench, 0x0903, 0x51, 1);
        due("reading gives the BUFFER", read(bench, GROM), 0x51);
        dueGrom("reading empties the LATCH", bench, 0x0904, 0x53, 0);
        write(bench, GROM_CONTROL, 7);
        read(bench, GROM_ADDRESS);
        dueGrom("reading ADDRESS empties the LATCH", bench, 0x0404, 0x53, 0);
        write(bench, GROM_CONTROL, 0);
        read(bench, READ);
        read(bench, STATUS);
        write(bench, DATA, 3);
        write(bench, CONTROL, 3);
        dueGrom("the picture's PORTS leave it", bench, 0x0004, 0x53, 1);
    }

    // "Write 0x9C00 .. 0x9FFF: 0: nothing."
    private static void gromIsNotWritten() {
        Bench bench = write(new Bench().bytes(3, 0, 0x41, 0x42), GROM_CONTROL, 0, 0, 0x10);
        write(bench, GROM_DATA, 0x77, 0x78);
        dueGrom("nothing", bench, 0x1001, 0x41, 1);
        write(bench, GROM_CONTROL, 0);
        write(bench, GROM_CONTROL, 0, 0);
        write(bench, GROM_DATA, 0x77);
        dueGrom("GROM stays", bench, 1, 0x41, 0);
        due("GROM stays", read(bench, GROM), 0x41);
        due("GROM stays", read(bench, GROM), 0x42);
    }

    // "Other PORTS (0x8400 .. 0x87FF, 0x9000 .. 0x97FF): 0, nothing."
    private static void otherPorts() {
        int[] addresses = {0x8400, 0x8402, 0x87FC, 0x87FE, 0x9000, 0x9002, 0x93FE, 0x9400, 0x9402, 0x97FC, 0x97FE};
        for (int address : addresses) {
            Bench bench = write(write(new Bench().bytes(2, 0, 0x11), CONTROL, 0, 0), GROM_CONTROL, 0, 0);
            bench.box.frame();
            due("0", read(bench, address), 0);
            write(bench, address, 0x81, 0x81);
            duePicture("nothing", bench, 1, 0x11, 0);
            dueGrom("nothing", bench, 1, 0, 0);
            due("F", bench.box.picture(3), 1);
        }
    }

    /** Vectors of every level to a place of its own with nothing but jumps to the next WORD. */
    private static Bench vectored(int... program) {
        Bench bench = Bench.with(program);
        for (int level = 1; level < 16; level++) {
            bench.words(0, 4 * level, 0x2000 + 64 * level, 0x1000 + 16 * level);
            bench.words(0, 0x1000 + 16 * level, 0x1000, 0x1000, 0x0380);
        }
        return bench;
    }

    private static Bench asking(int... program) {
        Bench bench = vectored(program);
        write(bench, CONTROL, 32, 0x81);
        bench.box.frame();
        return bench;
    }

    // "level 1 is asked for while F is 1, PICTURE's REGISTER 1 has 32, and OUT 2 is 1"
    private static void levelOneIsAskedForWhile() {
        Bench bench = asking(0x1D02, 0x1000, 0x1E02, 0x1000).status(0).run(1);
        due("MASK 0 lets none come", bench.box.state(5), 0);
        bench.status(1).run(1).duePc("it comes", 0x1012).dueStatus("MASK", 0);
        bench.run(2).duePc("RTWP", 0x0102).dueStatus("RTWP", 1);
        bench.status(0).run(2).status(15).run(1).duePc("OUT 2 is 0", 0x0108);
        Bench seen = asking(0x1D02, 0xD060, STATUS, 0x0300, 15, 0x1000).run(4).duePc("F was read", 0x010C);
        due("none came", seen.box.state(5), 0);
        Bench changed = asking(0x1D02, 0x1000).run(1);
        write(changed, CONTROL, 0xDF, 0x81);
        changed.status(15).run(1).duePc("REGISTER 1 has not 32", 0x0104);
        write(changed, CONTROL, 0x20, 0x81);
        changed.box.set(0, 0x0102);
        changed.run(1).duePc("it has", 0x1012);
    }

    // "the least level that is asked for, if it is not above MASK: ENTER at 4 times it; MASK is one less than it"
    private static void leastLevelNotAboveMask() {
        for (int mask = 0; mask < 16; mask++) {
            Bench bench = vectored(0x1000).status(0xFE00 | mask);
            bench.box.interrupt(9);
            bench.box.interrupt(7);
            bench.box.interrupt(15);
            bench.run(1).duePc("MASK " + mask, mask < 7 ? 0x0102 : 0x1072);
            bench.dueStatus("MASK " + mask, mask < 7 ? 0xFE00 | mask : 0xFE06);
            due("interrupts", bench.box.state(5), mask < 7 ? 0 : 1);
        }
        Bench both = asking(0x1D02, 0x1000).run(1);
        both.box.interrupt(2);
        both.status(2).run(1).duePc("1 is less than 2", 0x1012).dueStatus("MASK", 0);
    }

    // "what was told is done (F stays)"
    private static void whatWasToldIsDone() {
        Bench bench = vectored(0x1000, 0x1000).status(15);
        bench.box.interrupt(5);
        bench.run(3).duePc("RTWP", 0x0100).run(1).duePc("it is done", 0x0102);
        Bench picture = asking(0x1D02, 0x1000).run(1).status(15).run(3).duePc("RTWP", 0x0102);
        due("F stays", picture.box.picture(3), 1);
        picture.run(1).duePc("and it comes again", 0x1012);
        Bench others = vectored(0x1000).status(15);
        others.box.interrupt(6);
        others.box.interrupt(5);
        others.run(1).duePc("5", 0x1052).run(2).duePc("RTWP", 0x0100).run(1).duePc("6 waits till then", 0x1062);
    }

    // "(None comes right behind one .. : an instruction is done first.)"
    private static void noneRightBehindOne() {
        Bench bench = vectored(0x1000).words(0, 0x1050, 0x0300, 15).status(15);
        bench.box.interrupt(5);
        bench.box.interrupt(6);
        bench.run(1).duePc("LIMI is done first", 0x1054).run(1).duePc("then 6", 0x1062);
        Bench less = vectored(0x1000).status(15);
        less.box.interrupt(5);
        less.run(1).duePc("one instruction", 0x1052);
        less.box.interrupt(4);
        less.run(1).duePc("then 4", 0x1042);
    }

    // "behind BLWP and XOP: an instruction is done first"
    private static void noneRightBehindBlwpAndXop() {
        int[] words = {0x0420, 0x2C20};
        for (int word : words) {
            Bench bench = vectored(word, 0x0300).words(0, 0x0300, 0x2000, 0x0400).words(0, 0x40, 0x2000, 0x0400);
            bench.words(0, 0x0400, 0x1000, 0x1000).status(15).run(1).duePc("entered", 0x0400);
            bench.box.interrupt(2);
            bench.run(1).duePc("one instruction", 0x0402).run(1).duePc("then 2", 0x1022);
            due("interrupts", bench.box.state(5), 1);
        }
        int[] others = {0x1000, 0x0440, 0x0680, 0x0380, 0x0300, 0x02E0};
        for (int word : others) {
            Bench bench = vectored(word, 0x8300).register(15, 15).status(15).run(1);
            bench.status(15).box.interrupt(2);
            bench.run(1);
            due("right behind " + Integer.toHexString(word), bench.box.state(5), 1);
        }
    }

    // "It is no instruction."
    private static void itIsNoInstruction() {
        Bench bench = vectored(0x1000).status(15);
        bench.box.interrupt(3);
        bench.run(2).duePc("two instructions", 0x1034);
        due("done", bench.box.state(4), 2);
        due("interrupts", bench.box.state(5), 1);
    }

    // "the COLUMN (OUT 18, and twice 19, and four times 20) and ROW (bit less 3)"
    private static void keysByTheColumnThatWentOut() {
        int[] columns = {0, 1, 2, 4, 7};
        for (int column : columns) {
            Bench bench = Bench.with(0x30C1).register(12, 36).register(1, column << 8).run(1);
            bench.box.key(column, 0, true);
            bench.box.key(column, 7, true);
            for (int bit = 2; bit <= 11; bit++) {
                due("bit " + bit, bench.box.in(bit), bit == 3 || bit == 10 || bit == 11 ? 0 : 1);
            }
            Bench other = Bench.with(0x30C1).register(12, 36).register(1, (7 - column) << 8).run(1);
            other.box.key(column, 0, true);
            due("of another column", other.box.in(3), 1);
        }
    }
}
