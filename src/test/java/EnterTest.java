/** BLWP, XOP, RTWP and X. */
public final class EnterTest {
    private static final int ALL = 0xFE0F;

    public static void main(String[] args) {
        blwp();
        xop();
        executes();
        executesNone();
        workspaceInPorts();
        Bench.finish();
    }

    private static void entered(String what, Bench bench, int wp, int pc, int oldPc, int oldSt) {
        bench.duePc(what, pc);
        Bench.due(what + ": WP", bench.box.state(1), wp);
        bench.dueRegister(what, 13, Bench.WP).dueRegister(what, 14, oldPc).dueRegister(what, 15, oldSt);
    }

    private static void blwp() {
        Bench bench = Bench.with(0x0420, 0x2001).words(1, 0x2000, 0x2101, 0x0301).status(ALL).run(1);
        entered("BLWP", bench, 0x2100, 0x0300, 0x0104, ALL);
        bench.dueStatus("BLWP", ALL).words(0, 0x0300, 0x0380).status(0).run(1);
        bench.duePc("RTWP", 0x0104).dueStatus("RTWP", ALL);
        Bench.due("RTWP: WP", bench.box.state(1), Bench.WP);
        Bench register = Bench.with(0x0404).register(4, 0x2100).register(5, 0x0300).run(1);
        entered("BLWP R4", register, 0x2100, 0x0300, 0x0102, 0);
        Bench plus = Bench.with(0x0434).register(4, 0x2000).words(1, 0x2000, 0x2100, 0x0300).run(1);
        entered("BLWP *R4+", plus, 0x2100, 0x0300, 0x0102, 0);
        plus.dueWord("BLWP *R4+", Bench.WP + 8, 0x2002);
        Bench over = Bench.with(0x0420, 0x2000).words(1, 0x2000, 0x1FE6, 0x0300).run(1);
        over.duePc("p is got before a REGISTER is written over it", 0x0300);
        over.dueWord("REGISTER 13", 0x2000, Bench.WP).dueWord("REGISTER 14", 0x2002, 0x0104);
        Bench round = Bench.with(0x0420, 0xFFFE).words(1, 0xFFFE, 0x2100).run(1);
        entered("the WORD behind goes round", round, 0x2100, Bench.WP, 0x0104, 0);
        Bench unread = Bench.with(0x0420, 0x8800).run(1);
        Bench.due("BLWP reads the WORD as w alone", unread.box.picture(0), 1);
    }

    private static void xop() {
        for (int n = 0; n < 16; n++) {
            Bench bench = Bench.with(0x2C15 | n << 6).words(0, 0x40 + 4 * n, 0x2101, 0x0301);
            bench.register(5, 0x2345).status(0x900F).run(1);
            entered("XOP " + n, bench, 0x2100, 0x0300, 0x0102, 0x900F);
            bench.dueRegister("XOP " + n, 11, 0x2345).dueStatus("XOP " + n, 0x920F);
        }
        Bench register = Bench.with(0x2C05).words(0, 0x40, 0x2100, 0x0300).register(5, 1).run(1);
        register.dueRegister("the address of a REGISTER", 11, Bench.WP + 10);
        Bench plus = Bench.with(0x2C35).words(0, 0x40, 0x2100, 0x0300).register(5, 0x2000).run(1);
        plus.dueRegister("XOP *R5+", 11, 0x2000).dueWord("XOP *R5+", Bench.WP + 10, 0x2002);
        Bench unread = Bench.with(0x2C20, 0x8800).words(0, 0x40, 0x2100, 0x0300).run(1);
        Bench.due("the source is not read", unread.box.picture(0), 0);
        entered("XOP", unread, 0x2100, 0x0300, 0x0104, 0);
    }

    private static void executes() {
        Bench plain = Bench.with(0x0485).register(5, 0x0581).register(1, 8).run(1);
        plain.dueRegister("X of INC", 1, 9).duePc("X", 0x0102);
        Bench.due("it is one instruction", plain.box.state(4), 1);
        Bench words = Bench.with(0x04A0, 0x2000, 0x1234, 0x2010).words(1, 0x2000, 0xC820);
        words.words(1, 0x1234, 5).words(0, 0x1234, 0x4242).run(1).dueWord("its WORDS come from PC", 0x2010, 0x4242);
        words.duePc("X", 0x0108);
        Bench jump = Bench.with(0x0485).register(5, 0x1005).run(1).duePc("X of a jump", 0x010C);
        jump.dueRegister("X", 5, 0x1005);
        Bench branch = Bench.with(0x0495, 0x3000).register(5, 0x2000).words(1, 0x2000, 0x06A0).run(1);
        branch.duePc("X of BL", 0x3000).dueRegister("X of BL", 11, 0x0104);
        Bench idle = Bench.with(0x0485).register(5, 0x0340).run(4, 1);
        Bench.due("X of IDLE", idle.box.state(3), 1);
        Bench plus = Bench.with(0x04B5).register(5, 0x2000).words(1, 0x2000, 0x05C5).run(1);
        plus.dueRegister("the operand comes first", 5, 0x2004);
        Bench entered = Bench.with(0x0485, 0x2000).register(5, 0x0420).words(1, 0x2000, 0x2100, 0x0300).run(1);
        entered("X of BLWP", entered, 0x2100, 0x0300, 0x0104, 0);
    }

    private static void executesNone() {
        int[] none = {0, 0x01FF, 0x0320, 0x033F, 0x0480, 0x04BF, 0x0780, 0x07FF, 0x0C00, 0x0FFF};
        for (int word : none) {
            Bench bench = Bench.with(0x04B5).register(5, 0x2000).words(1, 0x2000, word).run(3, 0);
            bench.duePc("X of none", 0x0100).dueRegister("what it did stays", 5, 0x2002);
            Bench.due("it HALTS", bench.box.state(3), 2);
            Bench.due("none was done", bench.box.state(4), 0);
            Bench two = Bench.with(0x1000, 0x04A0, 0x2000).words(1, 0x2000, word).run(3, 1);
            two.duePc("PC is at the X", 0x0102);
        }
        Bench some = Bench.with(0x0485).register(5, 0x04C5).run(1);
        some.dueRegister("X of CLR is one", 5, 0);
        Bench before = Bench.with(0x0485).register(5, 0x047F).register(15, 0x0500).run(1);
        before.duePc("X of B is one", 0x0500);
    }

    private static void workspaceInPorts() {
        Bench bench = Bench.with(0x0420, 0x2000).words(1, 0x2000, 0x8BE6, 0x0300).run(1);
        Bench.due("REGISTER 13 goes to VRAM", bench.box.vram(0), 0x83);
        Bench.due("REGISTER 15 goes to VRAM", bench.box.vram(1), 0);
        Bench.due("ADDRESS", bench.box.picture(0), 2);
        Bench.due("REGISTER 14 came to the LATCH, 15 emptied it", bench.box.picture(2), 0);
    }
}
