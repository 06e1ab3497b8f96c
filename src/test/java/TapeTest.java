/** Promises 2, 3 and 4: feed, end, load. */
public final class TapeTest {
    public static void main(String[] args) {
        order();
        limits();
        ends();
        areas();
        edges();
        overflow();
        portsByLoad();
        Bench.finish();
    }

    private static void order() {
        WorkspaceBox box = new WorkspaceBox();
        Bench.due("feed", box.feed(0x01020304, 0x05060708, 0x090A0B0C, 0x0D0E0F10, 0xF1F2F3F4), 20);
        Bench.due("feed", box.feed(-1, 0x80000000, 0x7FFFFFFF, 0, 1), 40);
        Bench.due("load", box.load(1, 0x2000), 40);
        for (int i = 0; i < 16; i++) {
            Bench.due("byte " + i, box.peek(0x2000 + i), i + 1);
        }
        for (int i = 0; i < 4; i++) {
            Bench.due("byte " + (16 + i), box.peek(0x2010 + i), 0xF1 + i);
            Bench.due("byte " + (20 + i), box.peek(0x2014 + i), 0xFF);
        }
        Bench.due("byte 24", box.peek(0x2018), 0x80);
        Bench.due("byte 25", box.peek(0x2019), 0);
        Bench.due("byte 28", box.peek(0x201C), 0x7F);
        Bench.due("byte 39", box.peek(0x2027), 1);
        Bench.due("the TAPE is empty then", box.feed(0, 0, 0, 0, 0), 20);
    }

    private static void limits() {
        WorkspaceBox box = new WorkspaceBox();
        for (int i = 1; i <= 50; i++) {
            Bench.due("feed", box.feed(i, i, i, i, i), 20 * i);
        }
        Bench.due("feed of more than 1000", box.feed(9, 9, 9, 9, 9), -1);
        Bench.due("nothing is lost", box.end(1000), 1000);
        Bench.due("end", box.end(981), 981);
        Bench.due("feed", box.feed(9, 9, 9, 9, 9), -1);
        Bench.due("end", box.end(980), 980);
        Bench.due("feed", box.feed(9, 9, 9, 9, 9), 1000);
        Bench.due("load", box.load(3, 0), 1000);
        Bench.due("feed", box.feed(9, 9, 9, 9, 9), 20);
    }

    private static void ends() {
        WorkspaceBox box = new WorkspaceBox();
        Bench.due("end(0)", box.end(0), 0);
        Bench.due("end(1)", box.end(1), -1);
        box.feed(-1, -1, -1, -1, -1);
        Bench.due("end(21)", box.end(21), -1);
        Bench.due("end(-1)", box.end(-1), -1);
        Bench.due("end", box.end(Integer.MIN_VALUE), -1);
        Bench.due("end", box.end(Integer.MAX_VALUE), -1);
        Bench.due("end(20)", box.end(20), 20);
        Bench.due("end(3)", box.end(3), 3);
        Bench.due("feed goes on behind", box.feed(0x01020304, 0, 0, 0, 0), 23);
        Bench.due("load", box.load(1, 0x8000), 23);
        int[] want = {255, 255, 255, 1, 2, 3, 4, 0};
        for (int i = 0; i < want.length; i++) {
            Bench.due("byte " + i, box.peek(0x8000 + i), want[i]);
        }
        box.feed(-1, -1, -1, -1, -1);
        Bench.due("end(0)", box.end(0), 0);
        Bench.due("load of nothing", box.load(1, 0xA000), 0);
        Bench.due("nothing came", box.peek(0xA000), 0);
    }

    private static void areas() {
        Bench bench = new Bench();
        bench.bytes(0, 0x1FFE, 1, 2).bytes(2, 0x3FFE, 3, 4).bytes(3, 0x1FFE, 5, 6);
        Bench.due("ROM", bench.word(0x1FFE), 0x0102);
        Bench.due("VRAM", bench.box.vram(0x3FFF), 4);
        Bench.due("VRAM", bench.box.vram(0x3FFE), 3);
        bench.bytes(1, 0x9C02, 0x1F).bytes(1, 0x9C02, 0xFE);
        Bench.due("GROM", bench.box.grom(1), 5);
        bench.bytes(1, 0, 9, 9);
        Bench.due("as the processor writes: no ROM", bench.word(0), 0);
        bench.bytes(1, 0x1FFF, 7, 8);
        Bench.due("ROM's end", bench.word(0x1FFE), 0x0102);
        Bench.due("RAM's start", bench.box.peek(0x2000), 8);
        bench.bytes(1, 0x3FFF, 7, 8).bytes(1, 0x7FFF, 5, 6).bytes(1, 0x9FFF, 3, 4);
        Bench.due("RAM's end", bench.box.peek(0x3FFF), 7);
        Bench.due("behind RAM", bench.box.peek(0x4000), 0);
        Bench.due("ahead of PAD", bench.box.peek(0x7FFF), 0);
        Bench.due("PAD's start", bench.box.peek(0x8000), 6);
        Bench.due("an odd address", bench.box.peek(0x9FFF), 0);
        Bench.due("RAM", bench.box.peek(0xA000), 4);
        bench.bytes(1, 0xFFFE, 11, 12);
        Bench.due("the last WORD", bench.word(0xFFFE), 0x0B0C);
    }

    private static void edges() {
        int[] sizes = {8192, 65536, 16384, 8192};
        for (int area = 0; area < 4; area++) {
            WorkspaceBox box = new WorkspaceBox();
            Bench.due("empty at the end of " + area, box.load(area, sizes[area]), 0);
            Bench.due("empty behind the end of " + area, box.load(area, sizes[area] + 1), -1);
            box.feed(1, 2, 3, 4, 5);
            Bench.due("too far in " + area, box.load(area, sizes[area] - 19), -1);
            Bench.due("below 0 in " + area, box.load(area, -1), -1);
            Bench.due("far below 0 in " + area, box.load(area, Integer.MIN_VALUE), -1);
            Bench.due("far above in " + area, box.load(area, Integer.MAX_VALUE), -1);
            Bench.due("the TAPE stays", box.end(20), 20);
            Bench.due("fits in " + area, box.load(area, sizes[area] - 20), 20);
            Bench.due("the TAPE is empty", box.end(1), -1);
        }
    }

    private static void overflow() {
        WorkspaceBox box = new WorkspaceBox();
        box.feed(1, 2, 3, 4, 5);
        int[] none = {-1, 4, 5, Integer.MIN_VALUE, Integer.MAX_VALUE};
        for (int area : none) {
            Bench.due("no such area " + area, box.load(area, 0), -1);
        }
        Bench.due("the TAPE stays", box.load(2, 0), 20);
        Bench.due("it came", box.vram(19), 5);
    }

    private static void portsByLoad() {
        Bench bench = new Bench();
        bench.bytes(1, 0x8C02, 0x34).bytes(1, 0x8C02, 0x52);
        Bench.due("PICTURE's ADDRESS", bench.box.picture(0), 0x1234);
        bench.bytes(1, 0x8BFF, 1, 2, 3);
        Bench.due("only the even address is a PORT", bench.box.vram(0x1234), 2);
        Bench.due("only the even address is a PORT", bench.box.picture(0), 0x1235);
        bench.bytes(1, 0x8C00, 1, 2, 3, 4, 5);
        Bench.due("byte by byte", bench.box.vram(0x1235), 1);
        Bench.due("byte by byte", bench.box.vram(0x1236), 5);
        Bench.due("the LATCH is empty behind a byte", bench.box.picture(2), 0);
    }
}
