/** For each sentence of promises 1 to 5 that names a boundary case, a test of its own. */
public final class TapeSentencesTest {
    private static final int LEAST = Integer.MIN_VALUE;
    private static final int MOST = Integer.MAX_VALUE;

    public static void main(String[] args) {
        allIsZeroAndItHalts();
        twentyBytesTheHighestFirst();
        noneIfMoreThanThousand();
        aRefusedFeedAddsNothing();
        theFirstBytesAlone();
        noneIfTheTapeHasLess();
        noneIfBelowZero();
        emptyThen();
        anEmptyTapeCanBeLoaded();
        romByLoad();
        memoryAsTheProcessorWrites();
        portsByLoad();
        noSuchArea();
        addressBelowZero();
        aboveTheSize();
        aRefusedLoadDoesNothing();
        firstTwoWordsOfRom();
        resetClearsStatusAndRuns();
        resetForgetsToldLevels();
        resetLeavesTheRest();
        Bench.finish();
    }

    private static void due(String what, long got, long want) {
        Bench.due(what, got, want);
    }

    /** A TAPE with so many bytes, the numbers 1, 2, 3 .. modulo 256. */
    private static WorkspaceBox taped(int count) {
        WorkspaceBox box = new WorkspaceBox();
        for (int from = 0; from < count; from += 20) {
            int[] n = new int[5];
            for (int i = 0; i < 20; i++) {
                n[i / 4] = n[i / 4] << 8 | from + i + 1 & 255;
            }
            box.feed(n[0], n[1], n[2], n[3], n[4]);
        }
        due("TAPE", box.end(count), count);
        return box;
    }

    private static int sizeOf(int area) {
        return new int[] {8192, 65536, 16384, 8192}[area];
    }

    // Promise 1: "All 0; it HALTS."
    private static void allIsZeroAndItHalts() {
        WorkspaceBox box = new WorkspaceBox();
        due("it HALTS", box.state(3), 2);
        due("a program of 0 is not even begun", box.run(2000), 0);
        box.interrupt(2);
        due("nor by an interrupt", box.run(1), 0);
        due("no interrupt came", box.state(5), 0);
        box.set(0, 0);
        due("a 0 at 0 is no instruction", box.run(1), 0);
        due("it HALTS", box.state(3), 2);
    }

    // Promise 2: "Twenty bytes come behind the TAPE, of each number the highest first"
    private static void twentyBytesTheHighestFirst() {
        WorkspaceBox box = new WorkspaceBox();
        due("feed", box.feed(0x80FF017F, LEAST, MOST, -1, 0x000000FE), 20);
        due("load", box.load(2, 0), 20);
        int[] want = {0x80, 0xFF, 1, 0x7F, 0x80, 0, 0, 0, 0x7F, 255, 255, 255, 255, 255, 255, 255, 0, 0, 0, 0xFE};
        for (int i = 0; i < 20; i++) {
            due("byte " + i, box.vram(i), want[i]);
        }
        due("no byte behind them", box.vram(20), 0);
    }

    // Promise 2: "NONE if these would be more than 1000."
    private static void noneIfMoreThanThousand() {
        due("980 and 20", taped(980).feed(0, 0, 0, 0, 0), 1000);
        due("981 and 20", taped(981).feed(0, 0, 0, 0, 0), WorkspaceBox.NONE);
        due("999 and 20", taped(999).feed(0, 0, 0, 0, 0), WorkspaceBox.NONE);
        due("1000 and 20", taped(1000).feed(0, 0, 0, 0, 0), WorkspaceBox.NONE);
        due("979 and 20", taped(979).feed(0, 0, 0, 0, 0), 999);
    }

    private static void aRefusedFeedAddsNothing() {
        WorkspaceBox box = taped(990);
        due("feed", box.feed(-1, -1, -1, -1, -1), WorkspaceBox.NONE);
        due("it has no more", box.end(991), WorkspaceBox.NONE);
        due("load", box.load(2, 0), 990);
        due("the last byte stays", box.vram(989), 990 & 255);
        due("none came behind", box.vram(990), 0);
    }

    // Promise 3: "The TAPE has its first n bytes alone: n"
    private static void theFirstBytesAlone() {
        int[] ends = {0, 1, 7, 8, 9, 39, 40};
        for (int n : ends) {
            WorkspaceBox box = taped(40);
            due("end", box.end(n), n);
            due("load", box.load(3, 0) + box.load(2, 0), n);
            WorkspaceBox again = taped(40);
            again.end(n);
            due("load", again.load(2, 0), n);
            due("the last one", n == 0 ? 0 : again.vram(n - 1), n);
            due("none behind", again.vram(n), 0);
        }
        WorkspaceBox cut = taped(40);
        cut.end(3);
        due("what was cut off does not come back", cut.end(4), WorkspaceBox.NONE);
        due("feed goes on behind", cut.feed(0x0A0B0C0D, 0, 0, 0, 0), 23);
        due("load", cut.load(2, 0), 23);
        due("byte 2", cut.vram(2), 3);
        due("byte 3", cut.vram(3), 0x0A);
        due("byte 22", cut.vram(22), 0);
    }

    // Promise 3: "NONE if it has less"
    private static void noneIfTheTapeHasLess() {
        due("empty", new WorkspaceBox().end(1), WorkspaceBox.NONE);
        due("one more", taped(40).end(41), WorkspaceBox.NONE);
        due("as many", taped(40).end(40), 40);
        due("the most", taped(40).end(MOST), WorkspaceBox.NONE);
        due("1001", taped(1000).end(1001), WorkspaceBox.NONE);
        due("1000", taped(1000).end(1000), 1000);
        WorkspaceBox box = taped(40);
        box.end(41);
        due("a refused end leaves the TAPE", box.load(2, 0), 40);
    }

    // Promise 3: "or n is below 0"
    private static void noneIfBelowZero() {
        int[] wrong = {-1, -20, LEAST};
        for (int n : wrong) {
            due("empty, end(" + n + ")", new WorkspaceBox().end(n), WorkspaceBox.NONE);
            WorkspaceBox box = taped(40);
            due("end(" + n + ")", box.end(n), WorkspaceBox.NONE);
            due("it has its bytes", box.load(2, 0), 40);
        }
        due("0 is none of these", new WorkspaceBox().end(0), 0);
    }

    // Promise 4: "The TAPE (empty then)"
    private static void emptyThen() {
        for (int area = 0; area < 4; area++) {
            WorkspaceBox box = taped(40);
            due("load", box.load(area, 0), 40);
            due("empty then", box.end(1), WorkspaceBox.NONE);
            due("empty then", box.load(area, 100), 0);
            due("empty then", box.feed(0, 0, 0, 0, 0), 20);
        }
    }

    private static void anEmptyTapeCanBeLoaded() {
        for (int area = 0; area < 4; area++) {
            WorkspaceBox box = new WorkspaceBox();
            due("at 0", box.load(area, 0), 0);
            due("at the last", box.load(area, sizeOf(area) - 1), 0);
            due("at the size", box.load(area, sizeOf(area)), 0);
            due("above the size", box.load(area, sizeOf(area) + 1), WorkspaceBox.NONE);
            due("below 0", box.load(area, -1), WorkspaceBox.NONE);
        }
    }

    // Promise 4: "area 0 ROM"
    private static void romByLoad() {
        WorkspaceBox box = taped(1);
        due("load", box.load(0, 8191), 1);
        due("the last byte of ROM", box.peek(8191), 1);
        due("not RAM", box.peek(8192), 0);
    }

    // Promise 4: "1 MEMORY (as the processor writes, byte by byte"
    private static void memoryAsTheProcessorWrites() {
        WorkspaceBox box = taped(4);
        due("load", box.load(1, 0x1FFE), 4);
        due("ROM is not written", box.peek(0x1FFE) + box.peek(0x1FFF), 0);
        due("RAM is", box.peek(0x2000), 3);
        due("RAM is", box.peek(0x2001), 4);
        WorkspaceBox last = taped(1);
        due("load", last.load(1, 0xFFFF), 1);
        due("the last byte", last.peek(0xFFFF), 1);
        due("it did not go round", last.peek(0), 0);
        WorkspaceBox round = taped(600);
        due("load", round.load(1, 0x8000), 600);
        due("PAD: later bytes lie over earlier ones", round.peek(0x8000), 513 & 255);
        due("PAD", round.peek(0x8057), 600 & 255);
        due("PAD", round.peek(0x8058), (256 + 0x59) & 255);
    }

    // Promise 4: "PORTS, too"
    private static void portsByLoad() {
        WorkspaceBox box = taped(7);
        due("load", box.load(1, 0x8C00), 7);
        due("0x8C00 and 0x8C04 are data", box.picture(0), 2);
        due("VRAM", box.vram(0), 1);
        due("VRAM", box.vram(1), 5);
        due("0x8C06 is in the LATCH", box.picture(2), 1);
        WorkspaceBox grom = taped(7);
        grom.load(1, 0x9C00);
        due("0x9C02 and 0x9C06 are an address", grom.grom(0), 0x0308);
    }

    // Promise 4: "NONE, doing nothing: no such area"
    private static void noSuchArea() {
        int[] wrong = {-1, 4, 5, LEAST, MOST};
        for (int area : wrong) {
            due("area " + area, taped(4).load(area, 0), WorkspaceBox.NONE);
            due("area " + area + ", empty", new WorkspaceBox().load(area, 0), WorkspaceBox.NONE);
        }
    }

    // Promise 4: "address below 0"
    private static void addressBelowZero() {
        int[] wrong = {-1, -4, -65536, LEAST};
        for (int address : wrong) {
            for (int area = 0; area < 4; area++) {
                due("load(" + area + ", " + address + ")", taped(4).load(area, address), WorkspaceBox.NONE);
            }
        }
    }

    // Promise 4: "or address and number of bytes above its size (1: 65536)."
    private static void aboveTheSize() {
        int[] counts = {1, 20, 999, 1000};
        for (int area = 0; area < 4; area++) {
            for (int count : counts) {
                int last = sizeOf(area) - count;
                due("it fits just", taped(count).load(area, last), count);
                due("one too far", taped(count).load(area, last + 1), WorkspaceBox.NONE);
                due("far too far", taped(count).load(area, MOST), WorkspaceBox.NONE);
                due("so far that a sum goes round", taped(count).load(area, MOST - count + 1), WorkspaceBox.NONE);
            }
        }
    }

    private static void aRefusedLoadDoesNothing() {
        for (int area = 0; area < 4; area++) {
            WorkspaceBox box = taped(4);
            due("refused", box.load(area, sizeOf(area) - 3), WorkspaceBox.NONE);
            due("VRAM", box.vram(16381) + box.vram(16383), 0);
            due("ROM", box.peek(8189) + box.peek(8191), 0);
            due("RAM", box.peek(65533) + box.peek(65535), 0);
            due("the TAPE stays", box.load(2, 0), 4);
            due("the TAPE stays", box.vram(3), 4);
        }
        WorkspaceBox port = taped(1000);
        due("refused", port.load(1, 65536 - 999), WorkspaceBox.NONE);
        due("refused", port.load(4, 0x8C00), WorkspaceBox.NONE);
        due("no PORT was written", port.picture(0), 0);
    }

    // Promise 5: "WP, PC are the first two WORDS of ROM" and ==== 2: "lose their lowest bit wherever"
    private static void firstTwoWordsOfRom() {
        int[][] words = {{0, 0, 0, 0}, {1, 0, 1, 0}, {0xFFFF, 0xFFFE, 0xFFFF, 0xFFFE}, {0x8300, 0x8300, 0x24, 0x24},
            {0xA001, 0xA000, 0x2003, 0x2002}};
        for (int[] row : words) {
            Bench bench = new Bench().words(0, 0, row[0], row[2]);
            bench.box.reset();
            due("WP", bench.box.state(1), row[1]);
            due("PC", bench.box.state(0), row[3]);
        }
    }

    // Promise 5: "ST 0; it runs"
    private static void resetClearsStatusAndRuns() {
        Bench halted = new Bench();
        halted.box.reset();
        due("it runs", halted.box.state(3), 0);
        Bench asleep = Bench.with(0x0300, 15, 0x0340).run(9, 2);
        due("it sleeps", asleep.box.state(3), 1);
        asleep.box.reset();
        due("it runs", asleep.box.state(3), 0);
        due("ST", asleep.box.state(2), 0);
        Bench all = Bench.with(0).status(0xFE0F);
        all.box.reset();
        due("ST", all.box.state(2), 0);
    }

    // Promise 5: "levels that were told are forgotten"
    private static void resetForgetsToldLevels() {
        for (int level = 2; level < 16; level++) {
            Bench bench = Bench.with(0x1000, 0x1000, 0x1000);
            bench.box.interrupt(level);
            bench.box.reset();
            bench.status(15).run(1).duePc("none comes", 0x0102);
            bench.box.interrupt(level);
            bench.words(0, 4 * level, 0x2000, 0x0102).run(1);
            due("told behind reset, it comes", bench.box.state(5), 1);
        }
    }

    private static void resetLeavesTheRest() {
        Bench bench = Bench.with(0x1D02, 0x0340).register(12, 0);
        bench.bytes(1, 0x8C02, 0x20).bytes(1, 0x8C02, 0x81).bytes(1, 0x8C02, 7).bytes(1, 0x9C02, 9).run(1);
        bench.box.frame();
        bench.box.key(0, 4, true);
        bench.box.feed(1, 2, 3, 4, 5);
        bench.box.reset();
        due("OUT", bench.box.out(2), 1);
        due("F", bench.box.picture(3), 1);
        due("picture's REGISTER", bench.box.picture(9), 0x20);
        due("picture's LATCH", bench.box.picture(2), 1);
        due("GROM's ADDRESS", bench.box.grom(0), 0x0900);
        due("GROM's LATCH", bench.box.grom(2), 1);
        due("KEY", bench.box.in(7), 0);
        due("TAPE", bench.box.end(20), 20);
        bench.box.end(0);
        due("instructions done ever", bench.box.state(4), 1);
        bench.words(0, 4, 0x2000, 0x0102).status(1).run(1);
        due("level 1 is asked for by F still", bench.box.state(5), 1);
    }
}
