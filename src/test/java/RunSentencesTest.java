/** For each sentence of promises 6 to 9 that names a boundary case, a test of its own. */
public final class RunSentencesTest {
    private static final int LEAST = Integer.MIN_VALUE;
    private static final int MOST = Integer.MAX_VALUE;
    private static final int NONE = WorkspaceBox.NONE;

    public static void main(String[] args) {
        soManyInstructions();
        noInstructions();
        tillItHalts();
        tillItSleeps();
        anotherNumber();
        aRefusedRunDoesNothing();
        registersOfState();
        modesOfState();
        doneEver();
        noneForOtherStates();
        bytesOfMemory();
        portsAreZeroHere();
        noSuchAddress();
        lowestSixteenBits();
        statusBitsThatThereAre();
        setLetsItRun();
        noSuchOneToSet();
        Bench.finish();
    }

    private static void due(String what, long got, long want) {
        Bench.due(what, got, want);
    }

    // Promise 6: "So many instructions (0 to 2000)"
    private static void soManyInstructions() {
        int[] counts = {1, 2, 1999, 2000};
        for (int n : counts) {
            Bench bench = Bench.with(0x0581, 0x10FE).run(n);
            due("done", bench.box.state(4), n);
            bench.dueRegister("INC", 1, (n + 1) / 2);
        }
    }

    private static void noInstructions() {
        due("run(0) when it HALTS", new WorkspaceBox().run(0), 0);
        Bench bench = Bench.with(0x10FF).run(0).duePc("run(0)", 0x0100);
        bench.status(15);
        bench.box.interrupt(2);
        bench.run(0);
        due("no interrupt comes by run(0)", bench.box.state(5), 0);
        Bench none = Bench.with(0).run(0);
        due("run(0) does not see that it HALTS", none.box.state(3), 0);
        Bench last = Bench.with(0x10FF, 0).run(1);
        due("it runs behind its last instruction", last.box.state(3), 0);
        Bench before = Bench.with(0x1000, 0).run(1);
        due("what is none has not been come to", before.box.state(3), 0);
        before.run(1, 0);
        due("now it has", before.box.state(3), 2);
    }

    // Promise 6: "or till it HALTS"
    private static void tillItHalts() {
        Bench bench = Bench.with(0x0581, 0x0581, 0x0581, 0x0000, 0x0581).run(4, 3);
        bench.duePc("PC is at it", 0x0106).dueRegister("INC", 1, 3);
        due("it HALTS", bench.box.state(3), 2);
        bench.run(2000, 0).run(0);
        due("it HALTS still", bench.box.state(3), 2);
        Bench last = Bench.with(0x0581, 0x0000).run(1);
        due("as many as were asked for", last.box.state(3), 0);
        Bench interrupted = Bench.with(0x1000).words(0, 0x08, 0x2000, 0x0200).status(2);
        interrupted.box.interrupt(2);
        interrupted.run(5, 0).duePc("an interrupt to what is none", 0x0200);
        due("it came", interrupted.box.state(5), 1);
        due("it HALTS", interrupted.box.state(3), 2);
    }

    // Promise 6: "or it sleeps and no interrupt comes"
    private static void tillItSleeps() {
        Bench bench = Bench.with(0x0300, 5, 0x0340, 0x0581).words(0, 0x14, 0x8300, 0x0200).words(0, 0x0200, 0x0582);
        bench.run(9, 2).run(9, 0);
        due("it sleeps", bench.box.state(3), 1);
        bench.box.interrupt(6);
        bench.run(9, 0);
        due("one above MASK does not come", bench.box.state(3), 1);
        bench.box.interrupt(5);
        due("it sleeps till it is run", bench.box.state(3), 1);
        bench.run(1);
        bench.dueRegister("it comes", 2, 1).dueRegister("PC behind IDLE", 14, 0x0106);
        due("it runs", bench.box.state(3), 0);
        Bench ready = Bench.with(0x0300, 5, 0x0340).words(0, 0x14, 0x8300, 0x0200).words(0, 0x0200, 0x0582);
        ready.run(1).box.interrupt(5);
        ready.box.set(2, 0);
        ready.run(1);
        due("IDLE is done though one waits", ready.box.state(3), 1);
        ready.run(3, 0);
        Bench picture = Bench.with(0x1D02, 0x0300, 1, 0x0340).words(0, 4, 0x2000, 0x0200).words(0, 0x0200, 0x1000);
        picture.bytes(1, 0x8C02, 32).bytes(1, 0x8C02, 0x81).run(9, 3);
        picture.box.frame();
        picture.run(1).duePc("a picture wakes it", 0x0202);
    }

    // Promise 6: "IllegalArgumentException: another n."
    private static void anotherNumber() {
        int[] wrong = {-1, -2000, 2001, 65536, LEAST, MOST};
        for (int n : wrong) {
            due("run(" + n + ") throws when it runs", thrown(Bench.with(0x10FF).box, n), 1);
            due("run(" + n + ") throws when it HALTS", thrown(new WorkspaceBox(), n), 1);
            due("run(" + n + ") throws when it sleeps", thrown(Bench.with(0x0340).run(1).box, n), 1);
        }
        due("run(0)", thrown(Bench.with(0x10FF).box, 0), 0);
        due("run(2000)", thrown(Bench.with(0x10FF).box, 2000), 0);
    }

    private static int thrown(WorkspaceBox box, int n) {
        try {
            box.run(n);
        } catch (IllegalArgumentException e) {
            return 1;
        }
        return 0;
    }

    private static void aRefusedRunDoesNothing() {
        Bench bench = Bench.with(0x0581, 0x10FE).status(15);
        bench.box.interrupt(2);
        thrown(bench.box, 2001);
        thrown(bench.box, -1);
        bench.duePc("PC", 0x0100).dueRegister("R1", 1, 0);
        due("interrupts", bench.box.state(5), 0);
        due("done", bench.box.state(4), 0);
    }

    // Promise 7: "16 + n REGISTER n"; ==== 1: "Addresses .. go round"
    private static void registersOfState() {
        Bench bench = new Bench().words(0, 0, 0x1111, 0x2222).words(1, 0xFFFC, 0x3333, 0x4444);
        bench.box.set(1, 0xFFFC);
        bench.dueRegister("below", 0, 0x3333).dueRegister("below", 1, 0x4444);
        bench.dueRegister("round", 2, 0x1111).dueRegister("round", 3, 0x2222);
        bench.box.set(1, 0x83F0);
        bench.words(1, 0x80FE, 0x5555);
        bench.dueRegister("PAD's last", 7, 0x5555).dueRegister("behind PAD", 8, 0);
        bench.words(1, 0xA01E, 0x6666);
        bench.box.set(1, 0xA000);
        due("state(31)", bench.box.state(31), 0x6666);
        due("state(32)", bench.box.state(32), NONE);
        due("state(15)", bench.box.state(15), NONE);
    }

    // Promise 7: "3: 0 it runs, 1 it sleeps, 2 it HALTS"
    private static void modesOfState() {
        Bench bench = Bench.with(0x1000, 0x0340, 0x0000);
        due("runs", bench.box.state(3), 0);
        bench.run(1);
        due("runs", bench.box.state(3), 0);
        bench.run(1);
        due("sleeps", bench.box.state(3), 1);
        bench.box.set(0, 0x0104);
        due("runs", bench.box.state(3), 0);
        bench.run(1, 0);
        due("HALTS", bench.box.state(3), 2);
    }

    // Promise 7: "4 instructions done ever, 5 interrupts ever"
    private static void doneEver() {
        Bench bench = Bench.with(0x10FF);
        for (int i = 1; i <= 40; i++) {
            bench.run(2000);
            due("done ever", bench.box.state(4), 2000 * i);
        }
        bench.box.reset();
        bench.box.set(0, 0x0100);
        due("nothing forgets it", bench.box.state(4), 80000);
        Bench often = Bench.with(0x1D02, 0x0300, 1, 0x10FF).words(0, 4, 0x2000, 0x0200).words(0, 0x0200, 0x0380);
        often.bytes(1, 0x8C02, 32).bytes(1, 0x8C02, 0x81).run(2);
        often.box.frame();
        often.run(2000);
        due("an interrupt ahead of every RTWP", often.box.state(5), 2000);
        often.box.reset();
        due("interrupts ever", often.box.state(5), 2000);
    }

    // Promise 7: "NONE for others."
    private static void noneForOtherStates() {
        int[] wrong = {-1, -16, 6, 7, 8, 14, 15, 32, 33, 48, LEAST, MOST};
        for (int what : wrong) {
            due("state(" + what + ")", new WorkspaceBox().state(what), NONE);
            due("state(" + what + ")", Bench.with(0x10FF).run(3).box.state(what), NONE);
        }
    }

    // Promise 8: "The byte at an address of MEMORY"
    private static void bytesOfMemory() {
        Bench bench = new Bench().bytes(0, 0, 1).bytes(0, 0x1FFF, 2).bytes(1, 0x2000, 3).bytes(1, 0x3FFF, 4);
        bench.bytes(1, 0x8000, 5).bytes(1, 0x83FF, 6).bytes(1, 0xA000, 7).bytes(1, 0xFFFF, 0xFF);
        int[][] want = {{0, 1}, {0x1FFF, 2}, {0x2000, 3}, {0x3FFF, 4}, {0x4000, 0}, {0x7FFF, 0}, {0x8000, 5},
            {0x80FF, 6}, {0x8100, 5}, {0x81FF, 6}, {0x8200, 5}, {0x82FF, 6}, {0x8300, 5}, {0x83FF, 6}, {0x8400, 0},
            {0x84FF, 0}, {0x9F00, 0}, {0x9FFF, 0}, {0xA000, 7}, {0xFFFF, 255}};
        for (int[] row : want) {
            due("peek(" + Integer.toHexString(row[0]) + ")", bench.box.peek(row[0]), row[1]);
        }
    }

    // Promise 8: "PORTS are 0 here."
    private static void portsAreZeroHere() {
        Bench bench = new Bench().bytes(2, 0, 0x11, 0x22).bytes(3, 0, 0x33, 0x44);
        bench.bytes(1, 0x8C02, 0).bytes(1, 0x8C02, 0).bytes(1, 0x9C02, 0).bytes(1, 0x9C02, 0);
        bench.bytes(1, 0x9C02, 0x12).bytes(1, 0x8C02, 0x55);
        bench.box.frame();
        int[] ports = {0x8800, 0x8802, 0x8BFC, 0x8BFE, 0x8C00, 0x8C02, 0x9800, 0x9802, 0x9BFC, 0x9BFE, 0x9C00, 0x9C02};
        for (int address : ports) {
            due("peek(" + Integer.toHexString(address) + ")", bench.box.peek(address), 0);
        }
        due("BUFFER", bench.box.picture(1), 0x11);
        due("ADDRESS", bench.box.picture(0), 1);
        due("F", bench.box.picture(3), 1);
        due("LATCH", bench.box.picture(2), 1);
        due("GROM's BUFFER", bench.box.grom(1), 0x33);
        due("GROM's ADDRESS", bench.box.grom(0), 0x1201);
        due("GROM's LATCH", bench.box.grom(2), 1);
    }

    // Promise 8: "NONE: no such one."
    private static void noSuchAddress() {
        int[] wrong = {-1, 65536, 65537, -65536, LEAST, MOST};
        for (int address : wrong) {
            due("peek(" + address + ")", new WorkspaceBox().peek(address), NONE);
        }
    }

    // Promise 9: "PC, WP or ST (0, 1, 2) becomes a number's lowest 16 bits"
    private static void lowestSixteenBits() {
        int[][] rows = {{0, 0}, {1, 0}, {2, 2}, {0xFFFF, 0xFFFE}, {0x10000, 0}, {0x12346, 0x2346}, {-1, 0xFFFE},
            {-2, 0xFFFE}, {-3, 0xFFFC}, {LEAST, 0}, {MOST, 0xFFFE}, {0xABCD8001, 0x8000}};
        for (int what = 0; what < 2; what++) {
            for (int[] row : rows) {
                WorkspaceBox box = new WorkspaceBox();
                Bench.due("set(" + what + ", " + row[0] + ")", box.set(what, row[0]), true);
                due("set(" + what + ", " + row[0] + ")", box.state(what), row[1]);
                due("the others stay", box.state(1 - what) + box.state(2), 0);
            }
        }
    }

    // Promise 9: "(those that there are)"; ==== 1: ST's "(others are 0)"
    private static void statusBitsThatThereAre() {
        for (int bit = 0; bit < 32; bit++) {
            WorkspaceBox box = new WorkspaceBox();
            box.set(2, 1 << bit);
            boolean there = bit <= 3 || bit >= 9 && bit <= 15;
            due("bit " + bit, box.state(2), there ? 1 << bit : 0);
        }
        WorkspaceBox box = new WorkspaceBox();
        box.set(2, -1);
        due("all", box.state(2), 0xFE0F);
        box.set(2, 0x01F0);
        due("as a whole", box.state(2), 0);
    }

    // Promise 9: "it runs"
    private static void setLetsItRun() {
        for (int what = 0; what < 3; what++) {
            WorkspaceBox halted = new WorkspaceBox();
            halted.set(what, 0);
            due("it runs", halted.state(3), 0);
            Bench asleep = Bench.with(0x0340, 0x0581).run(1);
            due("it sleeps", asleep.box.state(3), 1);
            asleep.box.set(what, asleep.box.state(what));
            due("it runs", asleep.box.state(3), 0);
            asleep.run(1).dueRegister("it goes on behind IDLE", 1, 1);
        }
    }

    // Promise 9: "False: no such one."
    private static void noSuchOneToSet() {
        int[] wrong = {-1, 3, 4, 5, 16, LEAST, MOST};
        for (int what : wrong) {
            WorkspaceBox box = new WorkspaceBox();
            Bench.due("set(" + what + ")", box.set(what, -1), false);
            due("nothing is done", box.state(0) + box.state(1) + box.state(2), 0);
            due("it HALTS still", box.state(3), 2);
            Bench asleep = Bench.with(0x0340).run(1);
            asleep.box.set(what, -1);
            due("it sleeps still", asleep.box.state(3), 1);
        }
    }
}
