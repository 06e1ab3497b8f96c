import java.util.NoSuchElementException;
import java.util.Random;

/** Runs of any calls: nothing is thrown but what the document names, and answers keep to their ranges. */
public final class AnyCallsTest {
    private static final int[] EDGES = {Integer.MIN_VALUE, -65536, -1, 0, 1, 2, 3, 7, 8, 15, 16, 31, 32, 191, 192,
        255, 256, 1000, 2000, 2001, 4095, 4096, 8172, 8191, 8192, 16383, 16384, 0x8800, 0x8C02, 0x9802, 0x9C02,
        65535, 65536, Integer.MAX_VALUE};

    public static void main(String[] args) {
        for (int run = 0; run < 600; run++) {
            long first = answers(run);
            if (run % 20 == 0) {
                Bench.due("the same calls give the same answers", answers(run), first);
            }
        }
        Bench.finish();
    }

    private static long answers(int run) {
        Random random = new Random(run);
        WorkspaceBox box = new WorkspaceBox();
        long all = 0;
        for (int call = 0; call < 512; call++) {
            all = 31 * all + answer(box, random);
        }
        Bench.due("ST has no other bits", box.state(2) & ~0xFE0F, 0);
        Bench.due("PC and WP are even", (box.state(0) | box.state(1)) & ~0xFFFE, 0);
        Bench.due("a mode", box.state(3) >= 0 && box.state(3) <= 2, true);
        Bench.due("ADDRESS", box.picture(0) & ~16383, 0);
        Bench.due("GROM's ADDRESS", box.grom(0) & ~65535, 0);
        return all;
    }

    private static int number(Random random) {
        switch (random.nextInt(4)) {
            case 0: return EDGES[random.nextInt(EDGES.length)];
            case 1: return random.nextInt(65536);
            case 2: return random.nextInt(32);
            default: return random.nextInt();
        }
    }

    private static int word(Random random) {
        return random.nextInt(3) == 0 ? random.nextInt(0x4000) : random.nextInt(65536);
    }

    private static int twoWords(Random random) {
        return word(random) << 16 | word(random);
    }

    private static int answer(WorkspaceBox box, Random random) {
        switch (random.nextInt(22)) {
            case 0: case 1: case 2:
                return box.feed(twoWords(random), twoWords(random), twoWords(random), twoWords(random),
                    twoWords(random));
            case 3: return box.end(number(random));
            case 4: case 5: return box.load(random.nextInt(6) - 1, number(random));
            case 6: box.reset(); return 0;
            case 7: case 8: case 9: return ran(box, number(random));
            case 10: return box.state(number(random));
            case 11: return box.peek(number(random));
            case 12: return box.set(random.nextInt(4), number(random)) ? 1 : 0;
            case 13: return box.picture(number(random));
            case 14: return shown(box, number(random));
            case 15: return box.grom(number(random));
            case 16: box.frame(); return 0;
            case 17: return box.interrupt(number(random)) ? 1 : 0;
            case 18: return box.key(number(random), number(random), random.nextBoolean()) ? 1 : 0;
            case 19: return box.out(number(random));
            case 20: return box.in(number(random));
            default: return box.pixel(number(random), number(random));
        }
    }

    private static int ran(WorkspaceBox box, int n) {
        int done = -1;
        try {
            done = box.run(n);
        } catch (IllegalArgumentException e) {
            Bench.due("run(" + n + ") throws", n < 0 || n > 2000, true);
            return -2;
        }
        Bench.due("run(" + n + ") answers at most so many", done >= 0 && done <= n, true);
        return done;
    }

    private static int shown(WorkspaceBox box, int address) {
        int value = -1;
        try {
            value = box.vram(address);
        } catch (NoSuchElementException e) {
            Bench.due("vram(" + address + ") throws", address < 0 || address > 16383, true);
            return -2;
        }
        Bench.due("a byte", value & ~255, 0);
        return value;
    }
}
