/** Promise 1: a new object is all 0, and it HALTS. */
public final class NewObjectTest {
    public static void main(String[] args) {
        Bench.due("NONE", WorkspaceBox.NONE, -1);
        WorkspaceBox box = new WorkspaceBox();
        Bench.due("mode", box.state(3), 2);
        Bench.due("run", box.run(5), 0);
        int[] zeros = {0, 1, 2, 4, 5};
        for (int what : zeros) {
            Bench.due("state(" + what + ")", box.state(what), 0);
        }
        for (int n = 0; n < 16; n++) {
            Bench.due("REGISTER " + n, box.state(16 + n), 0);
        }
        for (int what = 0; what < 4; what++) {
            Bench.due("picture(" + what + ")", box.picture(what), 0);
        }
        for (int n = 0; n < 8; n++) {
            Bench.due("picture's REGISTER " + n, box.picture(8 + n), 0);
        }
        for (int what = 0; what < 3; what++) {
            Bench.due("grom(" + what + ")", box.grom(what), 0);
        }
        Bench.due("the TAPE is empty", box.end(1), -1);
        Bench.due("the TAPE is empty", box.load(0, 0), 0);
        rows();
        keysAreUp();
        Bench.finish();
    }

    private static void rows() {
        WorkspaceBox box = new WorkspaceBox();
        for (int address = 0; address < 65536; address++) {
            Bench.due("peek(" + address + ")", box.peek(address), 0);
        }
        for (int address = 0; address < 16384; address++) {
            Bench.due("vram(" + address + ")", box.vram(address), 0);
        }
        for (int bit = 0; bit < 4096; bit++) {
            Bench.due("out(" + bit + ")", box.out(bit), 0);
        }
        Bench.due("pixel", box.pixel(0, 0), 0);
        Bench.due("no object knows another", new WorkspaceBox().feed(1, 2, 3, 4, 5), 20);
        Bench.due("no object knows another", new WorkspaceBox().feed(1, 2, 3, 4, 5), 20);
    }

    private static void keysAreUp() {
        WorkspaceBox box = new WorkspaceBox();
        for (int bit = 0; bit < 32; bit++) {
            Bench.due("in(" + bit + ")", box.in(bit), bit >= 2 && bit <= 10 ? 1 : 0);
        }
    }
}
