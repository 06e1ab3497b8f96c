/** Promise 12 and the GROM's PORTS. */
public final class GromTest {
    private static final int READ = 0x9800;
    private static final int READ_ADDRESS = 0x9802;
    private static final int WRITE = 0x9C00;
    private static final int WRITE_ADDRESS = 0x9C02;

    public static void main(String[] args) {
        numbers();
        addresses();
        reading();
        highParts();
        readingAddress();
        mirrors();
        Bench.finish();
    }

    private static int read(Bench bench, int address) {
        bench.words(1, 0xA000, 0xD060, address);
        bench.box.set(0, 0xA000);
        bench.box.set(1, Bench.WP);
        bench.run(1);
        return bench.box.state(17) >> 8;
    }

    private static void dueAll(String what, Bench bench, int address, int buffer, int full) {
        Bench.due(what + ": ADDRESS", bench.box.grom(0), address);
        Bench.due(what + ": BUFFER", bench.box.grom(1), buffer);
        Bench.due(what + ": LATCH", bench.box.grom(2), full);
    }

    private static void numbers() {
        int[] none = {-1, 3, 4, 8, Integer.MIN_VALUE, Integer.MAX_VALUE};
        for (int what : none) {
            Bench.due("grom(" + what + ")", new WorkspaceBox().grom(what), -1);
        }
    }

    private static void addresses() {
        Bench bench = new Bench().bytes(3, 0x1234, 0x5A, 0x5B).bytes(1, WRITE_ADDRESS, 0x12);
        dueAll("one byte", bench, 0x1200, 0, 1);
        bench.bytes(1, WRITE, 0x77);
        dueAll("writing does nothing", bench, 0x1200, 0, 1);
        bench.bytes(1, WRITE_ADDRESS, 0x34);
        dueAll("two bytes", bench, 0x1235, 0x5A, 0);
        bench.bytes(1, WRITE_ADDRESS, 0xFF);
        dueAll("the lower byte stays", bench, 0xFF35, 0x5A, 1);
    }

    private static void reading() {
        Bench bench = new Bench().bytes(3, 0, 1, 2, 3).bytes(3, 0x1FFF, 9);
        bench.bytes(1, WRITE_ADDRESS, 0).bytes(1, WRITE_ADDRESS, 0);
        Bench.due("first", read(bench, READ), 1);
        dueAll("first", bench, 2, 2, 0);
        Bench.due("second", read(bench, READ), 2);
        bench.bytes(1, WRITE_ADDRESS, 0x1F);
        Bench.due("third", read(bench, READ), 3);
        Bench.due("reading empties the LATCH", bench.box.grom(2), 0);
        bench.bytes(1, WRITE_ADDRESS, 0x1F).bytes(1, WRITE_ADDRESS, 0xFF);
        dueAll("13 bits go round", bench, 0, 9, 0);
        Bench.due("the last", read(bench, READ), 9);
        Bench.due("the first behind it", read(bench, READ), 1);
    }

    private static void highParts() {
        Bench bench = new Bench().bytes(3, 0, 1, 2, 3).bytes(3, 0x1FFF, 9);
        bench.bytes(1, WRITE_ADDRESS, 0x3F).bytes(1, WRITE_ADDRESS, 0xFF);
        dueAll("higher bits stay", bench, 0x2000, 0, 0);
        read(bench, READ);
        dueAll("nothing lies there", bench, 0x2001, 0, 0);
        bench.bytes(1, WRITE_ADDRESS, 0xFF).bytes(1, WRITE_ADDRESS, 0xFF);
        dueAll("the highest", bench, 0xE000, 0, 0);
    }

    private static void readingAddress() {
        Bench bench = new Bench().bytes(1, WRITE_ADDRESS, 0x12).bytes(1, WRITE_ADDRESS, 0x33);
        bench.bytes(1, WRITE_ADDRESS, 0x12);
        Bench.due("higher byte", read(bench, READ_ADDRESS), 0x12);
        dueAll("each byte the lower one", bench, 0x3434, 0, 0);
        Bench.due("lower byte", read(bench, READ_ADDRESS), 0x34);
        dueAll("again", bench, 0x3434, 0, 0);
    }

    private static void mirrors() {
        Bench bench = new Bench().bytes(3, 0x0101, 8).bytes(1, 0x9FFE, 1).bytes(1, 0x9C06, 1);
        dueAll("mirrors", bench, 0x0102, 8, 0);
        bench.bytes(1, 0x9FFF, 1).bytes(1, 0x9C03, 1).bytes(1, READ, 1).bytes(1, READ_ADDRESS, 1);
        dueAll("no PORTS for writing", bench, 0x0102, 8, 0);
        Bench.due("reading where one writes", read(bench, WRITE), 0);
        Bench.due("reading where one writes", read(bench, WRITE_ADDRESS), 0);
        Bench.due("odd", read(bench, 0x9801), 0);
        dueAll("nothing", bench, 0x0102, 8, 0);
        Bench.due("a mirror", read(bench, 0x9BFC), 8);
        Bench.due("a mirror", read(bench, 0x9BFE), 1);
    }
}
