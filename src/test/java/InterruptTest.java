/** Promises 13 and 14: frame, interrupt. */
public final class InterruptTest {
    public static void main(String[] args) {
        levels();
        masks();
        leastFirst();
        picture();
        oneInstructionFirst();
        shieldOutlastsHalt();
        Bench.finish();
    }

    /** Vectors of every level: WP 0x2000 + 64 times it, PC 0x1000 + 16 times it. */
    private static Bench vectored(int... program) {
        Bench bench = Bench.with(program);
        for (int level = 1; level < 16; level++) {
            bench.words(0, 4 * level, 0x2001 + 64 * level, 0x1001 + 16 * level);
            bench.words(0, 0x1000 + 16 * level, 0x1000, 0x0380, 0x1000);
        }
        return bench;
    }

    private static void levels() {
        WorkspaceBox box = new WorkspaceBox();
        int[] none = {Integer.MIN_VALUE, -1, 0, 1, 16, 17, 34, Integer.MAX_VALUE};
        for (int level : none) {
            Bench.due("interrupt(" + level + ")", box.interrupt(level), false);
        }
        for (int level = 2; level < 16; level++) {
            Bench.due("interrupt(" + level + ")", box.interrupt(level), true);
            Bench.due("again", box.interrupt(level), true);
        }
    }

    private static void masks() {
        for (int level = 2; level < 16; level++) {
            Bench bench = vectored(0x1000, 0x1000, 0x1000, 0x1000).status(0xFE00 | level - 1);
            bench.box.interrupt(level);
            bench.run(1).duePc("above MASK", 0x0102);
            Bench.due("above MASK", bench.box.state(5), 0);
            bench.status(0xFE00 | level).run(1);
            bench.duePc("it came", 0x1002 + 16 * level).dueStatus("it came", 0xFE00 | level - 1);
            Bench.due("WP", bench.box.state(1), 0x2000 + 64 * level);
            Bench.due("interrupts", bench.box.state(5), 1);
            Bench.due("it is no instruction", bench.box.state(4), 2);
            bench.dueRegister("old WP", 13, Bench.WP).dueRegister("old PC", 14, 0x0102);
            bench.dueRegister("old ST", 15, 0xFE00 | level);
            bench.run(1).duePc("RTWP", 0x0102).dueStatus("RTWP", 0xFE00 | level);
            bench.run(1).duePc("it is done", 0x0104);
            Bench.due("interrupts", bench.box.state(5), 1);
        }
    }

    private static void leastFirst() {
        Bench bench = vectored(0x1000, 0x1000, 0x1000).status(15);
        bench.box.interrupt(9);
        bench.box.interrupt(4);
        bench.box.interrupt(15);
        bench.run(1).duePc("4 is first", 0x1042).dueStatus("MASK", 3);
        bench.run(1).duePc("RTWP", 0x0100).run(1).duePc("then 9", 0x1092);
        bench.run(2).duePc("then 15", 0x10F2);
        bench.run(2).duePc("no more", 0x0102);
        Bench.due("interrupts", bench.box.state(5), 3);
        Bench blocked = vectored(0x1000, 0x1000).status(3);
        blocked.box.interrupt(5);
        blocked.run(1).status(15);
        blocked.box.interrupt(3);
        blocked.run(1).duePc("told levels wait", 0x1032);
    }

    private static void picture() {
        for (int asked = 0; asked < 8; asked++) {
            Bench bench = vectored(0x1D02, 0x1000, 0x1000, 0x1000).status(1);
            bench.bytes(1, 0x8C02, (asked & 1) != 0 ? 32 : 0xDF).bytes(1, 0x8C02, 0x81);
            if ((asked & 2) == 0) {
                bench.box.set(0, 0x0102);
            }
            bench.run(1);
            if ((asked & 4) != 0) {
                bench.box.frame();
            }
            bench.run(1);
            Bench.due("level 1, " + asked, bench.box.state(5), asked == 7 ? 1 : 0);
        }
        Bench bench = vectored(0x1D02, 0x1000, 0x1000).status(1);
        bench.bytes(1, 0x8C02, 32).bytes(1, 0x8C02, 0x81).run(1);
        bench.box.frame();
        bench.box.interrupt(2);
        bench.run(1).duePc("level 1", 0x1012).dueStatus("MASK", 0);
        Bench.due("F stays", bench.box.picture(3), 1);
        bench.run(1).duePc("RTWP", 0x0102).run(1).duePc("and again", 0x1012);
        Bench.due("interrupts", bench.box.state(5), 2);
        bench.status(15);
        bench.words(1, 0x2040, 0).run(1).duePc("1 is ahead of 2", 0x1012);
    }

    private static void oneInstructionFirst() {
        Bench bench = vectored(0x1000, 0x1000).status(15);
        bench.box.interrupt(9);
        bench.run(1);
        bench.box.interrupt(4);
        bench.run(1).duePc("level 4 came behind one instruction", 0x1042);
        Bench both = vectored(0x1000).status(15);
        both.box.interrupt(9);
        both.box.interrupt(4);
        both.words(0, 0x1040, 0x0300, 15).run(1).duePc("LIMI first", 0x1044);
        both.run(1).duePc("then 9", 0x1092);
        int[] kinds = {0x0420, 0x2FE0};
        for (int kind : kinds) {
            Bench switched = vectored(kind, 0x0180).words(0, 0x0180, 0x8320, 0x0200).status(15);
            switched.words(0, 0x0200, 0x1000, 0x1000, 0x1000).words(0, 0x40 + 60, 0x8320, 0x0200);
            switched.run(1);
            switched.box.interrupt(2);
            switched.run(1).duePc("none behind BLWP and XOP", 0x0202);
            switched.run(1).duePc("then", 0x1022);
        }
        Bench executed = vectored(0x04A0, 0x0190, 0x0180).words(0, 0x0190, 0x0420).status(15);
        executed.words(0, 0x0180, 0x8320, 0x0200).words(0, 0x0200, 0x1000).run(1);
        executed.box.interrupt(2);
        executed.run(1).duePc("none behind BLWP by X", 0x0202);
        Bench returned = vectored(0x0380).register(13, Bench.WP).register(14, 0x0200).register(15, 15);
        returned.words(0, 0x0200, 0x1000).run(1);
        returned.box.interrupt(2);
        returned.run(1).duePc("right behind RTWP", 0x1022);
    }

    private static void shieldOutlastsHalt() {
        Bench bench = vectored(0x0420, 0x0180).words(0, 0x0180, 0x8320, 0x0300).status(15);
        bench.run(5, 1);
        Bench.due("it HALTS", bench.box.state(3), 2);
        bench.box.interrupt(2);
        bench.words(0, 0x0400, 0x1000, 0x1000);
        bench.box.set(0, 0x0400);
        bench.run(1).duePc("an instruction is done first", 0x0402);
        bench.run(1).duePc("then the interrupt", 0x1022);
    }
}
