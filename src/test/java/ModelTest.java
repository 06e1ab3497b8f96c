import java.util.Random;

/** Runs of any calls with programs of all instructions, on a WorkspaceBox and on the Model at once. */
public final class ModelTest {
    private static final int[] ADDRESSES = {0, 2, 0x40, 0x0100, 0x1FFE, 0x1FFF, 0x2000, 0x2001, 0x2100, 0x3FFE, 0x3FFF,
        0x4000, 0x7FFF, 0x8000, 0x8001, 0x80FE, 0x80FF, 0x8300, 0x83FE, 0x83FF, 0x8400, 0x8800, 0x8801, 0x8802,
        0x8BFC, 0x8BFE, 0x8C00, 0x8C02, 0x8C03, 0x8FFC, 0x8FFE, 0x9000, 0x9400, 0x9800, 0x9802, 0x9BFE, 0x9C00,
        0x9C02, 0x9FFC, 0x9FFE, 0x9FFF, 0xA000, 0xA001, 0xA200, 0xFFFE, 0xFFFF};
    private static final int[] NUMBERS = {0, 1, 2, 3, 15, 16, 0x24, 0x28, 0x7F, 0x80, 0xFF, 0x100, 0x7FFE, 0x7FFF, 0x8000,
        0x8001, 0xFF00, 0xFFFE, 0xFFFF};
    private static final int[] WORKSPACES = {0x8300, 0x8000, 0x83F0, 0x2000, 0x3FF0, 0xA400, 0xFFF0, 0x8301};
    private static final int[] STARTS = {0x0100, 0x0120, 0x0180, 0xA000, 0xA020, 0xA080};
    private static final int[] FIRSTS = {0x0200, 0x0220, 0x0240, 0x0260, 0x0280, 0x02A0, 0x02C0, 0x02E0, 0x0300, 0x0340,
        0x0360, 0x0380, 0x03A0, 0x03C0, 0x03E0, 0x0400, 0x0440, 0x0480, 0x04C0, 0x0500, 0x0540, 0x0580, 0x05C0,
        0x0600, 0x0640, 0x0680, 0x06C0, 0x0700, 0x0740, 0x0800, 0x0900, 0x0A00, 0x0B00, 0x1000, 0x1100, 0x1200,
        0x1300, 0x1400, 0x1500, 0x1600, 0x1700, 0x1800, 0x1900, 0x1A00, 0x1B00, 0x1C00, 0x1D00, 0x1E00, 0x1F00,
        0x2000, 0x2400, 0x2800, 0x2C00, 0x3000, 0x3400, 0x3800, 0x3C00, 0x4000, 0x5000, 0x6000, 0x7000, 0x8000,
        0x9000, 0xA000, 0xB000, 0xC000, 0xD000, 0xE000, 0xF000};

    private final Random random;
    private final String where;
    private final WorkspaceBox box = new WorkspaceBox();
    private final Model model = new Model();

    private ModelTest(int seed) {
        random = new Random(seed);
        where = "run " + seed + ": ";
    }

    public static void main(String[] args) {
        int runs = args.length == 0 ? 300 : Integer.parseInt(args[0]);
        for (int seed = 0; seed < runs; seed++) {
            new ModelTest(seed).calls();
        }
        Bench.due("names of instructions that were done", Model.DONE.size(), FIRSTS.length - 1);
        Bench.due("interrupts of the picture were seen", Model.pictureInterrupts > 100, true);
        Bench.due("interrupts that were told were seen", Model.toldInterrupts > 100, true);
        Bench.due("HALTS were seen", Model.halts > 100, true);
        Bench.finish();
    }

    private int one(int[] of) {
        return of[random.nextInt(of.length)];
    }

    /** The words of an instruction of any kind, with OPERANDS that lead somewhere. */
    private int[] instruction() {
        int first = one(FIRSTS);
        int size = first < 0x0400 ? 32 : first < 0x0800 ? 64 : first < 0x2000 ? 256 : first < 0x4000 ? 1024 : 4096;
        int word = first | random.nextInt(size);
        if (first >= 0x1000 && first < 0x1D00) {
            word = first | random.nextInt(12) - 4 & 255;
        }
        if (first >= 0x1D00 && first < 0x2000 && random.nextBoolean()) {
            word = first | one(new int[] {2, 3, 5, 10, 18, 19, 20});
        }
        if (first == 0x0300 || first == 0x02E0) {
            return new int[] {word, first == 0x0300 ? random.nextInt(18) : one(WORKSPACES)};
        }
        return new int[] {word, value(), value()};
    }

    private int value() {
        switch (random.nextInt(4)) {
            case 0: return one(NUMBERS);
            case 1: return random.nextInt(65536);
            default: return one(ADDRESSES);
        }
    }

    private void bring(int area, int address, int... words) {
        for (int from = 0; from < words.length; from += 10) {
            int[] numbers = new int[5];
            int count = Math.min(10, words.length - from);
            for (int i = 0; i < count; i++) {
                numbers[i / 2] |= words[from + i] << (i % 2 == 0 ? 16 : 0);
            }
            feed(numbers);
            due("end", box.end(2 * count), model.end(2 * count));
            due("load", box.load(area, address + 2 * from), model.load(area, address + 2 * from));
        }
    }

    private void feed(int[] n) {
        due("feed", box.feed(n[0], n[1], n[2], n[3], n[4]), model.feed(n));
    }

    private void due(String what, int got, int want) {
        Bench.due(where + what, got, want);
    }

    private void due(String what, boolean got, boolean want) {
        Bench.due(where + what, got, want);
    }

    private void program(int area, int address) {
        int[] words = new int[60];
        int at = 0;
        while (at < words.length) {
            for (int word : instruction()) {
                if (at < words.length && (word != 0 || random.nextInt(4) == 0)) {
                    words[at++] = word;
                }
                if (random.nextInt(3) == 0) {
                    break;
                }
            }
        }
        bring(area, address, words);
    }

    private void calls() {
        int[] vectors = new int[64];
        for (int i = 0; i < vectors.length; i += 2) {
            vectors[i] = random.nextInt(30) == 0 ? one(ADDRESSES) : one(WORKSPACES);
            vectors[i + 1] = one(STARTS);
        }
        bring(0, 0, vectors);
        program(0, 0x0100);
        program(1, 0xA000);
        int[] some = new int[16];
        for (int i = 0; i < some.length; i++) {
            some[i] = value();
        }
        bring(2, 0, some);
        bring(3, 0, some);
        box.reset();
        model.reset();
        for (int i = 0; i < 60; i++) {
            call();
            states();
        }
        rows();
    }

    private void call() {
        switch (random.nextInt(14)) {
            case 0: setUp(); break;
            case 1: registers(); break;
            case 2: frameWithInterrupt(); break;
            case 3: interrupt(random.nextInt(18) - 1); break;
            case 4: key(random.nextInt(9), random.nextInt(9), random.nextInt(3) > 0); break;
            case 5: bring(1, one(ADDRESSES) & 0xFFFE, value()); break;
            case 6: program(1, 0xA000); break;
            case 7: portBytes(); break;
            default: setUpIfHalted(); run(one(new int[] {0, 1, 1, 1, 2, 3, 5, 20, 100})); break;
        }
    }

    private void setUpIfHalted() {
        if (model.state(3) != 0) {
            setUp();
        }
    }

    private void setUp() {
        int start = one(STARTS);
        int workspace = random.nextInt(20) == 0 ? one(ADDRESSES) : one(WORKSPACES);
        due("set PC", box.set(0, start), model.set(0, start));
        due("set WP", box.set(1, workspace), model.set(1, workspace));
        if (random.nextInt(3) == 0) {
            int status = random.nextInt();
            due("set ST", box.set(2, status), model.set(2, status));
        }
        if (random.nextInt(10) == 0) {
            box.reset();
            model.reset();
        }
    }

    private void registers() {
        int wp = model.state(1);
        if (wp < 0x8400 || wp >= 0xA000) {
            for (int n = 0; n < 16; n++) {
                if (random.nextBoolean() && wp + 2 * n < 65536) {
                    bring(1, wp + 2 * n, value());
                }
            }
        }
    }

    private void portByte(int address, int value) {
        feed(new int[] {value << 24, 0, 0, 0, 0});
        due("end", box.end(1), model.end(1));
        due("load", box.load(1, address), model.load(1, address));
    }

    private void portBytes() {
        int address = one(new int[] {0x8C00, 0x8C02, 0x8C02, 0x8C02, 0x9C00, 0x9C02, 0x9C02});
        for (int i = random.nextInt(4); i >= 0; i--) {
            portByte(address, random.nextBoolean() ? one(NUMBERS) & 255 : 0x80 + random.nextInt(8));
        }
    }

    private void frameWithInterrupt() {
        box.frame();
        model.frame();
        if (random.nextBoolean()) {
            portByte(0x8C02, 0x60);
            portByte(0x8C02, 0x81);
            due("picture's REGISTER 1", box.picture(9), model.picture(9));
        }
        if (random.nextBoolean()) {
            bring(1, 0x8318, 0, 0);
            bring(1, 0xA1F0, 0x1D02, 0x0300, 15, 0x1000);
            due("set WP", box.set(1, 0x8300), model.set(1, 0x8300));
            due("set PC", box.set(0, 0xA1F0), model.set(0, 0xA1F0));
            run(3);
        }
    }

    private void interrupt(int level) {
        due("interrupt(" + level + ")", box.interrupt(level), model.interrupt(level));
    }

    private void key(int column, int row, boolean down) {
        due("key", box.key(column, row, down), model.key(column, row, down));
    }

    private void run(int n) {
        due("run(" + n + ")", box.run(n), model.run(n));
    }

    private void states() {
        for (int what = 0; what < 6; what++) {
            due("state(" + what + ")", box.state(what), model.state(what));
        }
        int what = random.nextInt(20) - 2;
        due("picture(" + what + ")", box.picture(what), model.picture(what));
        due("picture(0)", box.picture(0), model.picture(0));
        due("grom(0)", box.grom(0), model.grom(0));
        due("grom(1)", box.grom(1), model.grom(1));
        int n = 16 + random.nextInt(16);
        due("state(" + n + ")", box.state(n), model.state(n));
        int bit = random.nextInt(24);
        due("in(" + bit + ")", box.in(bit), model.in(bit));
        int x = random.nextInt(260) - 2;
        int y = random.nextInt(196) - 2;
        due("pixel(" + x + ", " + y + ")", box.pixel(x, y), model.pixel(x, y));
    }

    private void rows() {
        for (int address = 0; address < 65536; address++) {
            due("peek(" + address + ")", box.peek(address), model.peek(address));
        }
        for (int address = 0; address < 16384; address++) {
            due("vram(" + address + ")", box.vram(address), model.vram(address));
        }
        for (int bit = 0; bit < 4096; bit++) {
            due("out(" + bit + ")", box.out(bit), model.out(bit));
            due("in(" + bit + ")", box.in(bit), model.in(bit));
        }
        for (int what = -1; what < 17; what++) {
            due("picture(" + what + ")", box.picture(what), model.picture(what));
            due("grom(" + what + ")", box.grom(what), model.grom(what));
        }
        for (int y = 0; y < 192; y += 5) {
            for (int x = 0; x < 256; x += 3) {
                due("pixel(" + x + ", " + y + ")", box.pixel(x, y), model.pixel(x, y));
            }
        }
    }
}
