/** Edges at which two parts of the machine meet: of MEMORY, of instructions, of REGISTERS. */
public final class EdgesTest {
    public static void main(String[] args) {
        partsOfMemory();
        nothingElseIsWritten();
        firstOfTheirKind();
        lastRegisters();
        twoMore();
        sixteenBits();
        gromBytes();
        pixelRegisters();
        nestedInterrupts();
        sourcesOfAllNumbers();
        smallOnes();
        Bench.finish();
    }

    private static void partsOfMemory() {
        Bench bench = new Bench();
        int[] edges = {0x2000, 0x2002, 0x3FFC, 0x3FFE, 0x8000, 0x80FE, 0xA000, 0xA002, 0xFFFC, 0xFFFE};
        for (int i = 0; i < edges.length; i++) {
            bench.words(1, edges[i], 0x1110 + i);
        }
        for (int i = 0; i < edges.length; i++) {
            bench.dueWord("each has its own", edges[i], 0x1110 + i);
        }
    }

    private static void nothingElseIsWritten() {
        int[] closed = {0, 0x0100, 0x1FFE, 0x4000, 0x4100, 0x5FFE, 0x7F00, 0x7FFE, 0x8400, 0x8500, 0x87FE,
            0x8800, 0x9000, 0x9800, 0x9C00};
        for (int address : closed) {
            Bench bench = new Bench().words(1, address, 0xFFFF);
            int[] open = {0, 0x1FFE, 0x2000, 0x3FFE, 0x8000, 0x80FE, 0xA000, 0xBFFE, 0xFF00, 0xFFFE};
            for (int other : open) {
                bench.dueWord("written at " + Integer.toHexString(address), other, 0);
            }
            bench.dueWord("nothing is written", address, 0);
            Bench.due("VRAM", bench.box.vram(0), 0);
        }
    }

    private static void firstOfTheirKind() {
        Bench.with(0x0200, 0x4321).run(1).dueRegister("LI R0", 0, 0x4321);
        Bench.with(0x02A0).run(1).dueRegister("STWP R0", 0, Bench.WP);
        Bench blwp = Bench.with(0x0400).register(0, 0x2000).register(1, 0x0500).run(1);
        blwp.duePc("BLWP R0", 0x0500);
        Bench.with(0x0800).register(0, 0x8001).run(1).dueRegister("SRA R0", 0, 0xC000);
        Bench.with(0x1000).status(0).run(1).duePc("JMP 0", 0x0102);
        Bench sbo = Bench.with(0x1D00).register(12, 400).run(1);
        Bench.due("SBO 0", sbo.box.out(200), 1);
        Bench.with(0x2000).register(0, 0x1234).status(0).run(1).dueStatus("COC R0,R0", Bench.E);
        Bench.with(0x2800).register(0, 0x1234).run(1).dueRegister("XOR R0,R0", 0, 0);
        Bench ldcr = Bench.with(0x3000).register(0, 0x8000).register(12, 400).run(1);
        Bench.due("LDCR R0", ldcr.box.out(215), 1);
        Bench.with(0x3400).register(0, 0x8000).register(12, 400).run(1).dueRegister("STCR R0", 0, 0);
        Bench mpy = Bench.with(0x3800).register(0, 0x0100).run(1);
        mpy.dueRegister("MPY R0,R0", 0, 1).dueRegister("MPY R0,R0", 1, 0);
        Bench.with(0x4000).register(0, 0x1234).run(1).dueRegister("SZC R0,R0", 0, 0);
        Bench last = Bench.with(0x0BFF).register(15, 1).run(1);
        last.dueRegister("SRC R15,15", 15, 2);
        Bench.with(0xFFFF).register(15, 0x2000).run(1).dueRegister("SOCB *R15+,*R15+", 15, 0x2002);
    }

    private static void lastRegisters() {
        Bench.with(0x02AF).run(1).dueRegister("STWP R15", 15, Bench.WP);
        Bench.with(0x02AA).run(1).dueRegister("STWP R10", 10, Bench.WP);
        Bench.with(0x02CF).status(0x8003).run(1).dueRegister("STST R15", 15, 0x8003);
        Bench.with(0x02C2).status(0x8003).run(1).dueRegister("STST R2", 2, 0x8003);
        for (int n = 0; n < 16; n++) {
            Bench.with(0x0A10 | n).register(n, 3).run(1).dueRegister("SLA", n, 6);
            Bench.with(0x0200 | n, 7).run(1).dueRegister("LI", n, 7);
            Bench.with(0xC000 | n << 6 | (n ^ 5)).register(n ^ 5, 9).run(1).dueRegister("MOV", n, 9);
        }
    }

    private static void twoMore() {
        int[] words = {0x2070, 0x2470, 0x2870, 0x2C70, 0x3070, 0x3470, 0x3A70, 0x3E70, 0x4070, 0x6070, 0x8070,
            0xA070, 0xC070, 0xE070, 0x04F0, 0x0530, 0x0570, 0x05B0, 0x05F0, 0x0630, 0x0670, 0x06B0, 0x06F0,
            0x0730, 0x0770, 0x0430, 0x0470};
        for (int word : words) {
            boolean many = word == 0x3070 || word == 0x3470;
            Bench bench = Bench.with(many ? word | 0x0240 : word).register(0, 0x2100).run(1);
            bench.dueWord(Integer.toHexString(word) + " with *R0+", Bench.WP, 0x2102);
        }
        int[] bytes = {0x5070, 0x7070, 0x9070, 0xB070, 0xD070, 0xF070, 0x3070, 0x3470};
        for (int word : bytes) {
            Bench bench = Bench.with(word).register(0, 0x2100).run(1);
            bench.dueWord(Integer.toHexString(word) + " with *R0+", Bench.WP, 0x2101);
        }
    }

    private static void sixteenBits() {
        Bench bench = Bench.with(0x1D10, 0x1D11, 0x3001, 0x3402).register(1, 0).register(12, 400).run(3);
        Bench.due("the bit behind stays", bench.box.out(216), 1);
        Bench.due("the bit behind stays", bench.box.out(217), 1);
        bench.run(1).dueRegister("STCR of 16", 2, 0).dueStatus("STCR of 16", Bench.E);
    }

    private static void gromBytes() {
        for (int lower = 0; lower < 256; lower += 15) {
            Bench bench = Bench.with(0xD060, 0x9802, 0xD0A0, 0x9802);
            bench.bytes(1, 0x9C02, 0x55).bytes(1, 0x9C02, lower - 1 & 255).bytes(1, 0x9C02, 0xFF);
            int address = bench.box.grom(0);
            Bench.due("ADDRESS", address, 0xFF00 | lower);
            bench.run(2).dueRegister("higher", 1, 0xFF00).dueRegister("lower", 2, lower << 8);
            Bench.due("ADDRESS", bench.box.grom(0), lower * 257);
        }
    }

    private static void pixelRegisters() {
        for (int colour = 0; colour < 16; colour++) {
            Bench bench = new Bench();
            int[] values = {0, 0x40, 0x03, 0x81, 0x05, 0x77, 0x77, 0x10 | colour};
            for (int n = 0; n < 8; n++) {
                bench.bytes(1, 0x8C02, values[n]).bytes(1, 0x8C02, 0x80 + n);
            }
            Bench.due("REGISTER 7", bench.box.pixel(0, 0), colour);
            bench.bytes(2, 3 * 1024, 0x12).bytes(2, 5 * 2048 + 8 * 0x12, 0x80, 0x7F, 0xAA);
            bench.bytes(2, 0x81 * 64 + 2, colour << 4 | 15 - colour);
            int other = colour == 15 ? 15 : 15 - colour;
            for (int x = 0; x < 8; x++) {
                Bench.due("row 0", bench.box.pixel(x, 0), x == 0 ? colour : other);
                Bench.due("row 1", bench.box.pixel(x, 1), x == 0 ? other : colour);
                Bench.due("row 2", bench.box.pixel(x, 2), x % 2 == 0 ? colour : other);
            }
        }
    }

    private static void nestedInterrupts() {
        Bench bench = Bench.with(0x1000).words(0, 0x08, 0x2000, 0x0300, 0x2040, 0x0400).status(15);
        bench.words(0, 0x0300, 0x1000, 0x0380).words(0, 0x0400, 0x1000, 0x0380);
        bench.box.interrupt(3);
        bench.run(1).duePc("level 3", 0x0402);
        bench.box.interrupt(3);
        bench.box.interrupt(2);
        bench.run(1).duePc("level 2 inside", 0x0302).dueStatus("MASK", 1);
        bench.run(1).duePc("back in 3", 0x0402).dueStatus("MASK", 2);
        bench.run(1).duePc("back", 0x0100);
        bench.run(1).duePc("3 was told again", 0x0402);
        Bench.due("interrupts", bench.box.state(5), 3);
    }

    private static void sourcesOfAllNumbers() {
        int[] words = {0x2000, 0x2400, 0x2800, 0x3800, 0x3C00, 0x4000, 0x6000, 0x8000, 0xA000, 0xC000, 0xE000};
        for (int word : words) {
            Bench first = Bench.with(word | 0x0100).register(0, 0x0F11).register(4, 0x0533).register(5, 0x2222);
            first.status(0).run(1);
            for (int n = 1; n < 16; n++) {
                if (n != 4 && n != 5) {
                    Bench other = Bench.with(word | 0x0100 | n).register(n, 0x0F11).register(4, 0x0533);
                    other.register(5, 0x2222).status(0).run(1);
                    String what = Integer.toHexString(word) + " of REGISTER " + n;
                    other.dueRegister(what, 4, first.box.state(20)).dueRegister(what, 5, first.box.state(21));
                    other.dueStatus(what, first.box.state(2));
                }
            }
        }
    }

    private static void smallOnes() {
        for (int higher = 0; higher < 2; higher++) {
            Bench divided = Bench.with(0x3D01).register(1, 2).register(4, higher).register(5, 7).run(1);
            divided.dueRegister("DIV by 2", 4, higher * 32768 + 3).dueRegister("DIV by 2", 5, 1);
        }
        Bench xop = Bench.with(0x2C05).words(0, 0x40, 0x2100, 0x0300).status(0).run(1);
        xop.dueStatus("XOP sets X alone", Bench.X);
        Bench pad = new Bench().words(1, 0x8000, 0xFFFF);
        pad.dueWord("PAD", 0x8300, 0xFFFF).dueWord("behind PAD", 0x8400, 0).dueWord("ahead of PAD", 0x7FFE, 0);
        Bench grom = new Bench().bytes(1, 0x9C02, 0x12).bytes(1, 0x9C02, 0xFE).bytes(1, 0x9C02, 0x05);
        grom.bytes(1, 0x9C02, 0x40);
        Bench.due("the lower byte is changed as a whole", grom.box.grom(0), 0x0541);
        Bench dark = new Bench().bytes(2, 0, 0x1F).bytes(1, 0x8C02, 0xBF).bytes(1, 0x8C02, 0x81);
        Bench.due("bit 6 alone shows", dark.box.pixel(0, 0), 0);
        dark.bytes(1, 0x8C02, 0x40).bytes(1, 0x8C02, 0x81).bytes(2, 3, 0x45).bytes(2, 0x1F * 8, 0x80);
        Bench.due("shown", dark.box.pixel(0, 0), 4);
        Bench.due("shown", dark.box.pixel(1, 0), 5);
        dark.bytes(1, 0x8C02, 0xBF).bytes(1, 0x8C02, 0x81);
        Bench.due("not shown", dark.box.pixel(0, 0), 0);
    }
}
