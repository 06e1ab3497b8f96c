import java.util.NoSuchElementException;

/** Promises 10, 11, 13 and 18, and the PICTURE's PORTS. */
public final class PictureTest {
    private static final int READ = 0x8800;
    private static final int STATUS = 0x8802;
    private static final int DATA = 0x8C00;
    private static final int CONTROL = 0x8C02;

    public static void main(String[] args) {
        numbers();
        vrams();
        control();
        reading();
        writing();
        goesRound();
        status();
        latches();
        wordsAndMirrors();
        wrongWays();
        pixels();
        pixelEdges();
        Bench.finish();
    }

    private static Bench addressed(int lower, int higher) {
        return new Bench().bytes(1, CONTROL, lower).bytes(1, CONTROL, higher);
    }

    /** Moves a byte from an address to REGISTER 1 by MOVB @address,R1. */
    private static int read(Bench bench, int address) {
        bench.words(1, 0xA000, 0xD060, address);
        bench.box.set(0, 0xA000);
        bench.box.set(1, Bench.WP);
        bench.run(1);
        return bench.box.state(17) >> 8;
    }

    private static void dueAll(String what, Bench bench, int address, int buffer, int full) {
        Bench.due(what + ": ADDRESS", bench.box.picture(0), address);
        Bench.due(what + ": BUFFER", bench.box.picture(1), buffer);
        Bench.due(what + ": LATCH", bench.box.picture(2), full);
    }

    private static void numbers() {
        WorkspaceBox box = new WorkspaceBox();
        int[] none = {-1, 4, 5, 6, 7, 16, 17, Integer.MIN_VALUE, Integer.MAX_VALUE};
        for (int what : none) {
            Bench.due("picture(" + what + ")", box.picture(what), -1);
        }
    }

    private static void vrams() {
        Bench bench = new Bench().bytes(2, 0, 0xFE).bytes(2, 16383, 0x80);
        Bench.due("vram(0)", bench.box.vram(0), 0xFE);
        Bench.due("vram(16383)", bench.box.vram(16383), 0x80);
        int[] none = {-1, 16384, Integer.MIN_VALUE, Integer.MAX_VALUE};
        for (int address : none) {
            boolean thrown = false;
            try {
                bench.box.vram(address);
            } catch (NoSuchElementException e) {
                thrown = true;
            }
            Bench.due("vram(" + address + ") throws", thrown, true);
        }
    }

    private static void control() {
        Bench half = new Bench().bytes(1, CONTROL, 0xFF);
        dueAll("one byte", half, 0, 0, 1);
        Bench toRead = new Bench().bytes(2, 0x1234, 0x99).bytes(1, CONTROL, 0x34).bytes(1, CONTROL, 0x12);
        dueAll("00", toRead, 0x1235, 0x99, 0);
        Bench toWrite = new Bench().bytes(2, 0x1234, 0x99).bytes(1, CONTROL, 0x34).bytes(1, CONTROL, 0x52);
        dueAll("01", toWrite, 0x1234, 0, 0);
        Bench both = new Bench().bytes(2, 0x1234, 0x99).bytes(1, CONTROL, 0x34).bytes(1, CONTROL, 0xD2);
        dueAll("11", both, 0x1234, 0, 0);
        for (int n = 0; n < 8; n++) {
            Bench bench = addressed(0xA0 + n, 0x80 + n);
            bench.bytes(1, CONTROL, 0xB0 + n).bytes(1, CONTROL, 0xB8 + n);
            dueAll("10", bench, 0, 0, 0);
            for (int k = 0; k < 8; k++) {
                Bench.due("REGISTER " + k, bench.box.picture(8 + k), k == n ? 0xB0 + n : 0);
            }
        }
    }

    private static void reading() {
        Bench bench = new Bench().bytes(2, 0x0100, 1, 2, 3).bytes(1, CONTROL, 0).bytes(1, CONTROL, 1);
        Bench.due("first", read(bench, READ), 1);
        dueAll("first", bench, 0x0102, 2, 0);
        Bench.due("second", read(bench, READ), 2);
        Bench.due("third", read(bench, READ), 3);
        dueAll("third", bench, 0x0104, 0, 0);
        Bench.due("VRAM stays", bench.box.vram(0x0100), 1);
        Bench stale = new Bench().bytes(2, 0x0200, 7).bytes(1, CONTROL, 0).bytes(1, CONTROL, 0x42);
        Bench.due("01 gives what the BUFFER had", read(stale, READ), 0);
        Bench.due("then VRAM's", read(stale, READ), 7);
    }

    private static void writing() {
        Bench bench = addressed(0xFE, 0x40).bytes(1, DATA, 0x55);
        dueAll("written", bench, 0x00FF, 0x55, 0);
        Bench.due("VRAM", bench.box.vram(0x00FE), 0x55);
        bench.bytes(1, DATA, 0x66).bytes(1, DATA, 0x77);
        dueAll("written", bench, 0x0101, 0x77, 0);
        Bench.due("VRAM", bench.box.vram(0x00FF), 0x66);
        Bench.due("VRAM", bench.box.vram(0x0100), 0x77);
    }

    private static void goesRound() {
        Bench bench = addressed(0xFF, 0x7F).bytes(1, DATA, 5);
        dueAll("written at the end", bench, 0, 5, 0);
        Bench.due("VRAM", bench.box.vram(16383), 5);
        bench.bytes(1, CONTROL, 0xFF).bytes(1, CONTROL, 0x3F);
        dueAll("read at the end", bench, 0, 5, 0);
        bench.bytes(1, CONTROL, 0xFF).bytes(1, CONTROL, 0x7F);
        read(bench, READ);
        dueAll("read at the end", bench, 0, 5, 0);
    }

    private static void status() {
        Bench bench = new Bench();
        Bench.due("F", bench.box.picture(3), 0);
        Bench.due("STATUS", read(bench, STATUS), 0);
        bench.box.frame();
        bench.box.frame();
        Bench.due("F", bench.box.picture(3), 1);
        Bench.due("bit 2", bench.box.in(2), 0);
        Bench.due("STATUS", read(bench, STATUS), 128);
        Bench.due("F", bench.box.picture(3), 0);
        Bench.due("bit 2", bench.box.in(2), 1);
        Bench.due("STATUS", read(bench, STATUS), 0);
    }

    private static void latches() {
        Bench bench = new Bench().bytes(1, CONTROL, 1);
        read(bench, STATUS);
        Bench.due("STATUS empties the LATCH", bench.box.picture(2), 0);
        bench.bytes(1, CONTROL, 1);
        read(bench, READ);
        Bench.due("reading empties the LATCH", bench.box.picture(2), 0);
        bench.bytes(1, CONTROL, 1).bytes(1, DATA, 1);
        Bench.due("writing empties the LATCH", bench.box.picture(2), 0);
        bench.bytes(1, CONTROL, 1).bytes(1, CONTROL, 0x87);
        Bench.due("a second byte empties the LATCH", bench.box.picture(2), 0);
        bench.bytes(1, CONTROL, 0);
        Bench.due("a 0 fills it, too", bench.box.picture(2), 1);
    }

    private static void wordsAndMirrors() {
        Bench bench = Bench.inRam(0xC801, 0x8FFC, 0xC801, 0x8C05, 0xC0A0, 0x8BF9);
        bench.register(1, 0x1234).bytes(2, 2, 0x42).run(2);
        Bench.due("the higher byte of a WORD alone", bench.box.vram(0), 0x12);
        Bench.due("the lowest bit is not looked at", bench.box.vram(1), 0x12);
        Bench.due("ADDRESS", bench.box.picture(0), 2);
        bench.run(1).dueRegister("a WORD of a PORT", 2, 0x1200);
        Bench.due("BUFFER", bench.box.picture(1), 0x42);
        Bench odd = new Bench().bytes(1, 0x8C01, 1).bytes(1, 0x8C03, 1);
        dueAll("odd addresses", odd, 0, 0, 0);
    }

    private static void wrongWays() {
        Bench bench = addressed(0, 0x41).bytes(2, 0x0100, 9).bytes(1, READ, 5).bytes(1, STATUS, 5);
        dueAll("writing where one reads", bench, 0x0100, 0, 0);
        Bench.due("reading where one writes", read(bench, DATA), 0);
        Bench.due("reading where one writes", read(bench, CONTROL), 0);
        dueAll("reading where one writes", bench, 0x0100, 0, 0);
        Bench moved = Bench.inRam(0xD801, READ).bytes(2, 0, 8);
        moved.run(1);
        dueAll("MOVB reads the goal ahead", moved, 1, 8, 0);
        int[] others = {0x8400, 0x8402, 0x87FE, 0x9000, 0x9002, 0x9400, 0x97FE};
        for (int address : others) {
            Bench.due("other PORTS", read(bench, address), 0);
            bench.bytes(1, address, 1);
        }
        dueAll("other PORTS", bench, 0x0100, 0, 0);
    }

    private static Bench register(Bench bench, int n, int value) {
        return bench.bytes(1, CONTROL, value).bytes(1, CONTROL, 0x80 + n);
    }

    private static void pixels() {
        Bench bench = new Bench();
        register(bench, 7, 0xF4);
        Bench.due("not shown", bench.box.pixel(8, 8), 4);
        register(bench, 1, 0xBF);
        Bench.due("not shown", bench.box.pixel(8, 8), 4);
        register(bench, 1, 64);
        register(bench, 2, 0xF1);
        register(bench, 3, 0x0A);
        register(bench, 4, 0xFA);
        bench.bytes(2, 1024 + 32 * 2 + 3, 0x41);
        bench.bytes(2, 2 * 2048 + 8 * 0x41 + 5, 0xA1);
        bench.bytes(2, 10 * 64 + 8, 0x3C);
        int[] want = {3, 12, 3, 12, 12, 12, 12, 3};
        for (int x = 0; x < 8; x++) {
            Bench.due("pixel(" + (24 + x) + ", 21)", bench.box.pixel(24 + x, 21), want[x]);
            Bench.due("another row", bench.box.pixel(24 + x, 20), 12);
        }
        Bench.due("another name", bench.box.pixel(23, 21), 4);
        bench.bytes(2, 10 * 64 + 8, 0x0C);
        Bench.due("colour 0 of 1", bench.box.pixel(24, 21), 4);
        Bench.due("colour of 0", bench.box.pixel(25, 21), 12);
        bench.bytes(2, 10 * 64 + 8, 0x30);
        Bench.due("colour of 1", bench.box.pixel(24, 21), 3);
        Bench.due("colour 0 of 0", bench.box.pixel(25, 21), 4);
        register(bench, 7, 0x70);
        Bench.due("REGISTER 7 may be 0", bench.box.pixel(25, 21), 0);
        register(bench, 1, 0);
        Bench.due("not shown", bench.box.pixel(24, 21), 0);
    }

    private static void pixelEdges() {
        Bench bench = new Bench();
        register(bench, 1, 0xE0);
        register(bench, 2, 15);
        register(bench, 3, 0xFF);
        register(bench, 4, 7);
        register(bench, 7, 9);
        bench.bytes(2, 15 * 1024 + 767, 0xFF);
        bench.bytes(2, 7 * 2048 + 2047, 0x01);
        bench.bytes(2, 255 * 64 + 31, 0x52);
        Bench.due("the last one", bench.box.pixel(255, 191), 5);
        Bench.due("beside it", bench.box.pixel(254, 191), 2);
        Bench.due("above it", bench.box.pixel(255, 190), 2);
        Bench.due("the first one", bench.box.pixel(0, 0), 9);
        int[][] none = {{-1, 0}, {256, 0}, {0, -1}, {0, 192}, {Integer.MIN_VALUE, Integer.MIN_VALUE},
            {Integer.MAX_VALUE, 0}, {0, Integer.MAX_VALUE}};
        for (int[] at : none) {
            Bench.due("pixel(" + at[0] + ", " + at[1] + ")", bench.box.pixel(at[0], at[1]), -1);
        }
    }
}
