/** For each sentence of the Terms' parts 1 and 2 that names a boundary case, a test of its own. */
public final class TermSentencesTest {
    private static final int ALL = 0xFE0F;

    public static void main(String[] args) {
        lowestBitOfAWordsAddress();
        addressesGoRound();
        romIsNotWritten();
        partsThatAreNone();
        oddAddressesOfPorts();
        evenByteThenOddByte();
        nextWordAlone();
        oneOrTwoMoreGoesRound();
        moreBeforeAnythingElse();
        theByteAtThatVeryAddress();
        comparedWithAndWithoutSign();
        parityOfBytes();
        sumsBeyondTheBits();
        differencesBelowZero();
        allOneBits();
        productsAndTheWordBehind();
        sourceNotAbove();
        extendedOperations();
        sixteenBitsForZero();
        baseGoesRound();
        shiftByZero();
        signAtAnyStep();
        executeOfExecute();
        sizesAndSigns();
        bitsNotLookedAt();
        allGotFirst();
        jumpsForAndBack();
        wordsThatAreNone();
        enteredWords();
        Bench.finish();
    }

    private static void due(String what, long got, long want) {
        Bench.due(what, got, want);
    }

    // "the address's lowest bit is not looked at"
    private static void lowestBitOfAWordsAddress() {
        Bench read = Bench.with(0xC060, 0x2001).bytes(1, 0x2000, 0x12, 0x34, 0x56).run(1);
        read.dueRegister("read", 1, 0x1234);
        Bench written = Bench.with(0xC801, 0x2001).register(1, 0xABCD).run(1);
        written.dueWord("written", 0x2000, 0xABCD).dueWord("behind", 0x2002, 0);
        Bench last = Bench.with(0xC801, 0xFFFF).register(1, 0xABCD).run(1);
        last.dueWord("the last", 0xFFFE, 0xABCD);
    }

    // "Addresses are 0 to 65535 and go round."
    private static void addressesGoRound() {
        Bench program = new Bench().words(1, 0xFFFE, 0x1000).words(0, 0, 0x1000);
        program.box.set(0, 0xFFFE);
        program.run(1).duePc("PC", 0).run(1).duePc("PC", 2);
        Bench given = new Bench().words(1, 0xFFFE, 0x0460).words(0, 0, 0x1234);
        given.box.set(0, 0xFFFE);
        given.run(1).duePc("a next WORD", 0x1234);
        Bench sum = Bench.with(0xC061, 0xFFFF).register(1, 0x2003).words(1, 0x2002, 0x7777).run(1);
        sum.dueRegister("a sum", 1, 0x7777);
        Bench jump = new Bench().words(1, 0xFFFC, 0x1001);
        jump.box.set(0, 0xFFFC);
        jump.run(1).duePc("a jump", 0);
        Bench registers = Bench.with(0xC048);
        registers.box.set(1, 0xFFF0);
        registers.run(1).dueWord("REGISTER 8 lies at 0", 0xFFF2, Bench.WP);
    }

    // "ROM .. (8192 bytes, not written by the processor)"
    private static void romIsNotWritten() {
        int[] addresses = {0x0004, 0x0100, 0x1000, 0x1FFE};
        for (int address : addresses) {
            Bench bench = Bench.with(0x0720, address, 0xD820, 0x2000, address).bytes(1, 0x2000, 0xEE);
            int had = bench.word(address);
            bench.run(2).dueWord("ROM", address, had);
        }
        Bench ram = Bench.with(0x0720, 0x2000).run(1).dueWord("RAM", 0x2000, 0xFFFF);
        ram.dueWord("ROM", 0x1FFE, 0);
        Bench workspace = Bench.with(0x0201, 5);
        workspace.box.set(1, 0x0200);
        workspace.run(1).dueRegister("a workspace in ROM", 1, 0).dueStatus("but ST", Bench.L | Bench.G);
    }

    // "else bytes are 0, and nothing is written"
    private static void partsThatAreNone() {
        int[] addresses = {0x4000, 0x4002, 0x7FFE, 0x8400, 0x87FE, 0x9000, 0x97FE};
        for (int address : addresses) {
            Bench bench = Bench.with(0x0720, address, 0xC060, address, 0x05A0, address).register(1, 7).run(2);
            bench.dueRegister("nothing is there", 1, 0).run(1).dueWord("nothing is there", address, 0);
            bench.dueStatus("INC of 0", Bench.L | Bench.G);
            due("no chip was meant", bench.box.picture(0) + bench.box.picture(2) + bench.box.grom(0), 0);
        }
        int[][] edges = {{0x3FFE, 0x4000}, {0x8000, 0x7FFE}, {0x83FE, 0x8400}, {0xA000, 0x9FF8}};
        for (int[] edge : edges) {
            Bench bench = Bench.with(0x0720, edge[0]).run(1).dueWord("inside", edge[0], 0xFFFF);
            bench.dueWord("outside", edge[1], 0);
        }
    }

    // "(At odd addresses from 0x8400 to 0x9FFF bytes are 0, too."
    private static void oddAddressesOfPorts() {
        int[] addresses = {0x8401, 0x87FF, 0x8801, 0x8803, 0x8BFF, 0x8C01, 0x8C03, 0x8FFF, 0x9001, 0x9801, 0x9803,
            0x9BFF, 0x9C01, 0x9C03, 0x9FFF};
        for (int address : addresses) {
            Bench bench = Bench.with(0xD060, address, 0xD802, address).register(1, 0x7700).register(2, 0x5500);
            bench.bytes(2, 0, 9).bytes(3, 0, 9);
            bench.box.frame();
            bench.run(2).dueRegister("a byte at " + Integer.toHexString(address), 1, 0);
            due("ADDRESS", bench.box.picture(0), 0);
            due("F", bench.box.picture(3), 1);
            due("LATCH", bench.box.picture(2), 0);
            due("GROM", bench.box.grom(0) + bench.box.grom(1) + bench.box.grom(2), 0);
        }
    }

    // "A WORD is read or written as its byte at the even address, then that at the odd one.)"
    private static void evenByteThenOddByte() {
        Bench bench = Bench.with(0xC060, 0x8800, 0xC802, 0x8C00, 0xC0E0, 0x8802).bytes(2, 0, 0x31, 0x32);
        bench.register(2, 0xABCD).run(1).dueRegister("BUFFER and 0", 1, 0);
        due("read once", bench.box.picture(0), 1);
        due("BUFFER", bench.box.picture(1), 0x31);
        bench.run(1);
        due("the higher byte", bench.box.vram(1), 0xAB);
        due("written once", bench.box.picture(0), 2);
        bench.box.frame();
        bench.run(1).dueRegister("STATUS and 0", 3, 0x8000);
    }

    // "2: the next WORD of the program, and (n not 0) REGISTER n, added"
    private static void nextWordAlone() {
        Bench zero = Bench.with(0xC060, 0x2000).register(0, 0x0010).words(1, 0x2000, 0x1111).words(1, 0x2010, 0x2222);
        zero.run(1).dueRegister("n 0", 1, 0x1111);
        for (int n = 1; n < 16; n++) {
            Bench one = Bench.with(0xC020 | n, 0x2000).register(n, 0x0010).words(1, 0x2010, 0x2222);
            one.run(1).dueRegister("n " + n, 0, 0x2222);
        }
        Bench below = Bench.with(0xC061, 0x2010).register(1, 0xFFF0).words(1, 0x2000, 0x3333);
        below.run(1).dueRegister("it goes round", 1, 0x3333);
    }

    // "3: as 1, then REGISTER n is 1 (byte instructions) or 2 more"
    private static void oneOrTwoMoreGoesRound() {
        Bench word = Bench.with(0xC0B1).register(1, 0xFFFF).words(1, 0xFFFE, 0x4242).run(1);
        word.dueRegister("2 more", 1, 1).dueRegister("what it has", 2, 0x4242);
        Bench even = Bench.with(0xC0B1).register(1, 0xFFFE).run(1);
        even.dueRegister("2 more", 1, 0);
        Bench bytes = Bench.with(0xD0B1).register(1, 0xFFFF).bytes(1, 0xFFFF, 0x43).run(1);
        bytes.dueRegister("1 more", 1, 0).dueRegister("what it has", 2, 0x4300);
        Bench carry = Bench.with(0xD0B1).register(1, 0x20FF).run(1);
        carry.dueRegister("1 more", 1, 0x2100);
    }

    // "before anything else is done"
    private static void moreBeforeAnythingElse() {
        Bench self = Bench.with(0xC0B1).register(1, Bench.WP + 2).run(1);
        self.dueRegister("MOV *R1+,R2 at R1 itself", 2, Bench.WP + 4);
        Bench goal = Bench.with(0xC430).register(0, 0x2000).words(1, 0x2000, 0x2040).run(1);
        goal.dueWord("MOV *R0+,*R0", 0x2002, 0x2040).dueWord("MOV *R0+,*R0", 0x2000, 0x2040);
        Bench twice = Bench.with(0xDC31).register(1, 0x2000).register(0, 0x2000).bytes(1, 0x2000, 0x71, 0x72).run(1);
        twice.dueRegister("MOVB *R1+,*R0+", 0, 0x2001).dueRegister("MOVB *R1+,*R0+", 1, 0x2001);
        Bench same = Bench.with(0xDC71).register(1, 0x2000).bytes(1, 0x2000, 0x71, 0x72).run(1);
        same.dueRegister("MOVB *R1+,*R1+", 1, 0x2002).dueWord("MOVB *R1+,*R1+", 0x2000, 0x7171);
        Bench index = Bench.with(0xC871, 0x0100).register(1, 0x2000).words(1, 0x2000, 0x6161).run(1);
        index.dueWord("MOV *R1+,@0x100(R1)", 0x2102, 0x6161);
    }

    // "bytes: the byte at that very address (of a REGISTER the higher one)"
    private static void theByteAtThatVeryAddress() {
        Bench odd = Bench.with(0xD060, 0x2001).bytes(1, 0x2000, 0x11, 0x22).register(1, 0x9999).run(1);
        odd.dueRegister("odd, to the higher one", 1, 0x2299);
        Bench even = Bench.with(0xD060, 0x2000).bytes(1, 0x2000, 0x11, 0x22).register(1, 0x9999).run(1);
        even.dueRegister("even, to the higher one", 1, 0x1199);
        Bench out = Bench.with(0xD801, 0x2001).words(1, 0x2000, 0x8888).register(1, 0x7766).run(1);
        out.dueWord("of the higher one", 0x2000, 0x8877);
    }

    private static void compared(int a, int b, int flags) {
        String what = "C of " + Integer.toHexString(a) + ", " + Integer.toHexString(b);
        Bench.with(0x8081).register(1, a).register(2, b).status(0xE000 ^ flags).run(1).dueStatus(what, flags);
        Bench bytes = Bench.with(0x9081).register(1, a & 0xFF00 | 0xFF).register(2, b & 0xFF00).status(0);
        if (a >> 8 != b >> 8) {
            bytes.run(1).dueStatus(what, flags | (Integer.bitCount(a >> 8) % 2 == 1 ? Bench.P : 0));
        }
    }

    // "CMP a, b: L if a is above b as numbers from 0 on, G as numbers with a sign, E if alike; each 0 else."
    private static void comparedWithAndWithoutSign() {
        compared(0x8000, 0x7FFF, Bench.L);
        compared(0x7FFF, 0x8000, Bench.G);
        compared(0xFFFF, 0x0000, Bench.L);
        compared(0x0000, 0xFFFF, Bench.G);
        compared(0x0000, 0x0000, Bench.E);
        compared(0xFFFF, 0xFFFF, Bench.E);
        compared(0x8000, 0x8000, Bench.E);
        compared(0x0100, 0x0000, Bench.L | Bench.G);
        compared(0x0000, 0x0100, 0);
        compared(0xFF00, 0x8000, Bench.L | Bench.G);
        compared(0x8000, 0xFF00, 0);
        compared(0x0001, 0x0000, Bench.L | Bench.G);
        compared(0xFFFE, 0xFFFF, 0);
        Bench.with(0x9081).register(1, 0x1200).register(2, 0x12FF).run(1).dueStatus("bytes alike", Bench.E);
    }

    // "PAR (bytes): P if the number of 1 bits is odd, else 0." "All B: PAR of w (of 9000: of the source)."
    private static void parityOfBytes() {
        for (int value = 0; value < 256; value++) {
            int odd = Integer.bitCount(value) % 2 == 1 ? Bench.P : 0;
            Bench moved = Bench.with(0xD081).register(1, value << 8 | 1).status(Bench.P ^ odd).run(1);
            due("MOVB of " + value, moved.box.state(2) & Bench.P, odd);
            Bench compared = Bench.with(0x9081).register(1, value << 8 | 1).register(2, 0x0100).run(1);
            due("CB of " + value, compared.box.state(2) & Bench.P, odd);
        }
        Bench.with(0xC081).register(1, 0x0100).status(0).run(1).dueStatus("no PAR of words", Bench.L | Bench.G);
        Bench.with(0xC081).register(1, 0).status(Bench.P).run(1).dueStatus("no PAR of words", Bench.E | Bench.P);
    }

    private static void combined(int word, int source, int goal, int w, int flags) {
        String what = Integer.toHexString(word) + " of " + source + ", " + goal;
        Bench bench = Bench.with(word | 0x81).register(1, source).register(2, goal).status(0x1800 ^ flags & 0x1800);
        bench.run(1).dueRegister(what, 2, w).dueStatus(what, flags);
    }

    // "C if it goes beyond 16 (8) bits, V if both have one sign and w the other"
    private static void sumsBeyondTheBits() {
        combined(0xA000, 1, 0xFFFE, 0xFFFF, Bench.L);
        combined(0xA000, 1, 0xFFFF, 0, Bench.E | Bench.C);
        combined(0xA000, 1, 0x7FFE, 0x7FFF, Bench.L | Bench.G);
        combined(0xA000, 1, 0x7FFF, 0x8000, Bench.L | Bench.V);
        combined(0xA000, 0x8000, 0x8000, 0, Bench.E | Bench.C | Bench.V);
        combined(0xA000, 0xFFFF, 0x8000, 0x7FFF, Bench.L | Bench.G | Bench.C | Bench.V);
        combined(0xA000, 0xFFFF, 0x8001, 0x8000, Bench.L | Bench.C);
        combined(0xA000, 0xFFFF, 0xFFFF, 0xFFFE, Bench.L | Bench.C);
        combined(0xB000, 0x01FF, 0xFEFF, 0xFFFF, Bench.L);
        combined(0xB000, 0x01FF, 0xFFFF, 0x00FF, Bench.E | Bench.C);
        combined(0xB000, 0x01FF, 0x7FFF, 0x80FF, Bench.L | Bench.V | Bench.P);
        combined(0xB000, 0x8000, 0x8012, 0x0012, Bench.E | Bench.C | Bench.V);
    }

    // "C if source is not above goal (from 0 on), V if both have unlike signs and w has not goal's"
    private static void differencesBelowZero() {
        combined(0x6000, 5, 5, 0, Bench.E | Bench.C);
        combined(0x6000, 6, 5, 0xFFFF, Bench.L);
        combined(0x6000, 4, 5, 1, Bench.L | Bench.G | Bench.C);
        combined(0x6000, 0, 0, 0, Bench.E | Bench.C);
        combined(0x6000, 1, 0x8000, 0x7FFF, Bench.L | Bench.G | Bench.C | Bench.V);
        combined(0x6000, 0xFFFF, 0x7FFF, 0x8000, Bench.L | Bench.V);
        combined(0x6000, 0x8000, 0, 0x8000, Bench.L | Bench.V);
        combined(0x6000, 0x8000, 0xFFFF, 0x7FFF, Bench.L | Bench.G | Bench.C);
        combined(0x6000, 0x7FFF, 0xFFFF, 0x8000, Bench.L | Bench.C);
        combined(0x7000, 0x05FF, 0x0500, 0, Bench.E | Bench.C);
        combined(0x7000, 0x0600, 0x0500, 0xFF00, Bench.L);
        combined(0x7000, 0x0100, 0x8077, 0x7F77, Bench.L | Bench.G | Bench.C | Bench.V | Bench.P);
        combined(0x7000, 0xFF00, 0x7F00, 0x8000, Bench.L | Bench.V | Bench.P);
    }

    // "E if all 1 bits of the source are 1 (0) there"
    private static void allOneBits() {
        int[][] rows = {{0, 0, 1, 1}, {0, 0xFFFF, 1, 1}, {0x8001, 0x8001, 1, 0}, {0x8001, 0x8000, 0, 0},
            {0x8001, 0x7FFE, 0, 1}, {0xFFFF, 0xFFFF, 1, 0}, {0xFFFF, 0xFFFE, 0, 0}, {0xFFFF, 0, 0, 1}};
        for (int[] row : rows) {
            for (int st = 0; st <= ALL; st += ALL) {
                int others = st & ~Bench.E;
                Bench coc = Bench.with(0x2081).register(1, row[0]).register(2, row[1]).status(st).run(1);
                coc.dueStatus("COC", others | row[2] * Bench.E).dueRegister("COC", 2, row[1]);
                Bench czc = Bench.with(0x2481).register(1, row[0]).register(2, row[1]).status(st).run(1);
                czc.dueStatus("CZC", others | row[3] * Bench.E).dueRegister("CZC", 2, row[1]);
            }
        }
    }

    // "the lower one to REGISTER n + 1 (the WORD behind it)"
    private static void productsAndTheWordBehind() {
        Bench most = Bench.with(0x3881).register(1, 0xFFFF).register(2, 0xFFFF).run(1);
        most.dueRegister("the most", 2, 0xFFFE).dueRegister("the most", 3, 1).dueStatus("MPY", 0);
        Bench zero = Bench.with(0x3881).register(1, 0).register(2, 0xFFFF).register(3, 5).run(1);
        zero.dueRegister("0", 2, 0).dueRegister("0", 3, 0);
        Bench last = Bench.with(0x3BC1).register(1, 0x8000).register(15, 3).run(1);
        last.dueRegister("REGISTER 15", 15, 1).dueWord("the WORD behind", Bench.WP + 32, 0x8000);
        last.dueRegister("not REGISTER 0", 0, 0);
        Bench divided = Bench.with(0x3FC1).register(1, 7).words(1, Bench.WP + 32, 50).run(1);
        divided.dueRegister("REGISTER 15", 15, 7).dueWord("the WORD behind", Bench.WP + 32, 1);
    }

    private static void divided(int source, int higher, int lower, int quotient, int rest, int flags) {
        String what = "DIV of " + higher + " " + lower + " by " + source;
        Bench bench = Bench.with(0x3C81).register(1, source).register(2, higher).register(3, lower);
        bench.status(Bench.V ^ flags).run(1).dueStatus(what, flags);
        bench.dueRegister(what, 2, quotient).dueRegister(what, 3, rest);
    }

    // "DIV: source not above REGISTER n: V, nothing else; else V is 0"
    private static void sourceNotAbove() {
        divided(0, 0, 7, 0, 7, Bench.V);
        divided(0, 0xFFFF, 7, 0xFFFF, 7, Bench.V);
        divided(5, 5, 7, 5, 7, Bench.V);
        divided(5, 6, 7, 6, 7, Bench.V);
        divided(5, 4, 0xFFFF, 0xFFFF, 4, 0);
        divided(1, 0, 0xFFFF, 0xFFFF, 0, 0);
        divided(0xFFFF, 0xFFFF, 0, 0xFFFF, 0, Bench.V);
        divided(0xFFFF, 0xFFFE, 0xFFFE, 0xFFFF, 0xFFFD, 0);
        divided(0x8000, 0x7FFF, 0xFFFF, 0xFFFF, 0x7FFF, 0);
        Bench plus = Bench.with(0x3CB1).register(1, 0x2000).register(2, 1).run(1);
        plus.dueRegister("what the operand did stays", 1, 0x2002).dueStatus("DIV by 0", Bench.V);
    }

    // "XOP: ENTER at 0x40 + 4 n; then REGISTER 11 is the source's address, X is 1 (the source itself is not read)"
    private static void extendedOperations() {
        int[] numbers = {0, 15};
        for (int n : numbers) {
            Bench bench = Bench.with(0x2C20 | n << 6, 0x8800).words(0, 0x40 + 4 * n, 0x2000, 0x0300).run(1);
            bench.duePc("XOP", 0x0300).dueRegister("XOP", 11, 0x8800).dueStatus("XOP", Bench.X);
            bench.dueRegister("ST as it was", 15, 0);
            due("not read", bench.box.picture(0), 0);
        }
        Bench odd = Bench.with(0x2C11).words(0, 0x40, 0x2000, 0x0300).register(1, 0x2345).run(1);
        odd.dueRegister("an odd address", 11, 0x2345);
    }

    // "number of bits c in 9 to 6 (0: 16); up to 8 the operand is a byte"
    private static void sixteenBitsForZero() {
        int[][] rows = {{0, 16, 0}, {1, 1, 1}, {7, 7, 1}, {8, 8, 1}, {9, 9, 0}, {15, 15, 0}};
        for (int[] row : rows) {
            Bench sent = Bench.with(0x3031 | row[0] << 6).register(12, 200).register(1, 0x2000).words(1, 0x2000, 0xFFFF);
            sent.run(1).dueRegister("LDCR *R1+", 1, row[2] == 1 ? 0x2001 : 0x2002);
            due("the last bit", sent.box.out(100 + row[1] - 1), 1);
            due("the bit behind", sent.box.out(100 + row[1]), 0);
            Bench came = Bench.with(0x3001, 0x3431 | row[0] << 6).register(12, 200).register(1, 0xFFFF).run(1);
            came.register(1, 0x2000).words(1, 0x2000, 0x5555, 0x5555).run(1);
            int in = (1 << row[1]) - 1;
            came.dueWord("STCR", 0x2000, row[2] == 1 ? in << 8 | 0x55 : in).dueWord("behind", 0x2002, 0x5555);
        }
    }

    // "BASE: REGISTER 12 / 2 (whole part) modulo 4096." "bit BASE + d (modulo 4096)"
    private static void baseGoesRound() {
        int[][] rows = {{0, 0}, {1, 0}, {2, 1}, {3, 1}, {0x1FFE, 4095}, {0x1FFF, 4095}, {0x2000, 0}, {0xFFFE, 4095},
            {0xFFFF, 4095}, {0x8000, 0}};
        for (int[] row : rows) {
            Bench bench = Bench.with(0x1D00).register(12, row[0]).run(1);
            due("REGISTER 12 is " + row[0], bench.box.out(row[1]), 1);
        }
        Bench below = Bench.with(0x1D80, 0x1F80).run(2);
        due("0 - 128", below.box.out(4096 - 128), 1);
        below.dueStatus("TB of it", Bench.E);
        Bench above = Bench.with(0x1D7F, 0x1E7F).register(12, 2 * 4095).run(1);
        due("4095 + 127", above.box.out(126), 1);
        above.run(1);
        due("SBZ", above.box.out(126), 0);
        Bench many = Bench.with(0x30C1, 0x34C2).register(1, 0x0700).register(12, 2 * 4094).run(2);
        due("bits go round", many.box.out(4094) + many.box.out(4095) + many.box.out(0), 3);
        due("no more", many.box.out(1), 0);
        many.dueRegister("and come in so", 2, 0x0700);
    }

    // "by 0: by REGISTER 0 modulo 16, and if that is 0: by 16"
    private static void shiftByZero() {
        int[][] rows = {{0, 16}, {1, 1}, {15, 15}, {16, 16}, {17, 1}, {0xFFF0, 16}, {0xFFFF, 15}};
        for (int[] row : rows) {
            Bench right = Bench.with(0x0901).register(0, row[0]).register(1, 0x8000).run(1);
            right.dueRegister("SRL", 1, 0x8000 >> row[1]);
            due("C", right.box.state(2) & Bench.C, row[1] == 16 ? Bench.C : 0);
            Bench left = Bench.with(0x0A01).register(0, row[0]).register(1, 1).run(1);
            left.dueRegister("SLA", 1, 1 << row[1] & 0xFFFF);
            due("C", left.box.state(2) & Bench.C, row[1] == 16 ? Bench.C : 0);
        }
        Bench sign = Bench.with(0x0801).register(1, 0x8000).run(1);
        sign.dueRegister("SRA by 16 keeps the sign", 1, 0xFFFF).dueStatus("SRA", Bench.L | Bench.C);
        Bench round = Bench.with(0x0B01).register(1, 0x8001).run(1);
        round.dueRegister("SRC by 16 goes round", 1, 0x8001).dueStatus("SRC", Bench.L | Bench.C);
        Bench named = Bench.with(0x0911).register(0, 5).register(1, 2).run(1);
        named.dueRegister("by 1, whatever REGISTER 0 is", 1, 1);
    }

    // "SLA: V if the sign changed at any step, else 0"
    private static void signAtAnyStep() {
        int[][] rows = {{0x4000, 1, 1}, {0x4000, 2, 1}, {0x2000, 1, 0}, {0x2000, 2, 1}, {0xC000, 1, 0}, {0xC000, 2, 1},
            {0x8000, 1, 1}, {0, 15, 0}, {0xFFFF, 15, 0}, {0xFFFE, 15, 1}, {0x0001, 14, 0}, {0x0001, 15, 1}};
        for (int[] row : rows) {
            Bench bench = Bench.with(0x0A01 | row[1] << 4).register(1, row[0]);
            bench.status(row[2] == 1 ? 0 : Bench.V).run(1);
            due("V of " + row[0] + " by " + row[1], bench.box.state(2) & Bench.V, row[2] * Bench.V);
        }
        Bench others = Bench.with(0x0B11).register(1, 1).status(0).run(1);
        due("SRC leaves V", others.box.state(2) & Bench.V, 0);
        Bench kept = Bench.with(0x0911).register(1, 1).status(Bench.V).run(1);
        due("SRL leaves V", kept.box.state(2) & Bench.V, Bench.V);
    }

    // "one that is an X (0480 to 04BF) itself is none"
    private static void executeOfExecute() {
        int[] words = {0x047F, 0x0480, 0x0481, 0x04BF, 0x04C0};
        for (int word : words) {
            boolean isX = word >= 0x0480 && word <= 0x04BF;
            Bench bench = Bench.with(0x1000, 0x04B5).register(5, 0x2000).words(1, 0x2000, word).run(2, isX ? 1 : 2);
            due("it HALTS", bench.box.state(3), isX ? 2 : 0);
            due("done", bench.box.state(4), isX ? 1 : 2);
            if (isX) {
                bench.duePc("PC at the X", 0x0102).dueRegister("what X's operand did stays", 5, 0x2002);
            }
        }
    }

    private static void oneOperand(int word, int had, int w, int flags) {
        String what = Integer.toHexString(word) + " of " + Integer.toHexString(had);
        Bench bench = Bench.with(word | 1).register(1, had).status(0xF800 ^ flags).run(1);
        bench.dueRegister(what, 1, w).dueStatus(what, flags);
    }

    // "0500 NEG: 0 - it, as S. .. INC, INCT, DEC, DECT: as A of 1, 2, -1, -2. .. ABS: .. V if it was 0x8000"
    private static void sizesAndSigns() {
        oneOperand(0x0500, 0, 0, Bench.E | Bench.C);
        oneOperand(0x0500, 1, 0xFFFF, Bench.L);
        oneOperand(0x0500, 0xFFFF, 1, Bench.L | Bench.G);
        oneOperand(0x0500, 0x8000, 0x8000, Bench.L | Bench.V);
        oneOperand(0x0580, 0xFFFF, 0, Bench.E | Bench.C);
        oneOperand(0x0580, 0x7FFF, 0x8000, Bench.L | Bench.V);
        oneOperand(0x05C0, 0xFFFE, 0, Bench.E | Bench.C);
        oneOperand(0x05C0, 0xFFFF, 1, Bench.L | Bench.G | Bench.C);
        oneOperand(0x05C0, 0x7FFE, 0x8000, Bench.L | Bench.V);
        oneOperand(0x0600, 0, 0xFFFF, Bench.L);
        oneOperand(0x0600, 1, 0, Bench.E | Bench.C);
        oneOperand(0x0600, 0x8000, 0x7FFF, Bench.L | Bench.G | Bench.C | Bench.V);
        oneOperand(0x0640, 0, 0xFFFE, Bench.L);
        oneOperand(0x0640, 1, 0xFFFF, Bench.L);
        oneOperand(0x0640, 2, 0, Bench.E | Bench.C);
        oneOperand(0x0640, 0x8001, 0x7FFF, Bench.L | Bench.G | Bench.C | Bench.V);
        oneOperand(0x0740, 0, 0, Bench.E);
        oneOperand(0x0740, 1, 1, Bench.L | Bench.G);
        oneOperand(0x0740, 0x7FFF, 0x7FFF, Bench.L | Bench.G);
        oneOperand(0x0740, 0x8000, 0x8000, Bench.L | Bench.V);
        oneOperand(0x0740, 0x8001, 0x7FFF, Bench.L);
        oneOperand(0x0740, 0xFFFF, 1, Bench.L);
    }

    // "(bit 4 is not looked at)", "(Bits 4 to 0 of 02A0 to 03FF but for STWP, STST are not looked at.)"
    private static void bitsNotLookedAt() {
        for (int low = 0; low < 32; low++) {
            int n = low & 15;
            Bench.with(0x0200 | low, 0x1234).run(1).dueRegister("LI", n, 0x1234);
            Bench.with(0x0220 | low, 2).register(n, 3).run(1).dueRegister("AI", n, 5);
            Bench.with(0x0240 | low, 6).register(n, 3).run(1).dueRegister("ANDI", n, 2);
            Bench.with(0x0260 | low, 6).register(n, 3).run(1).dueRegister("ORI", n, 7);
            Bench.with(0x0280 | low, 3).register(n, 3).run(1).dueRegister("CI", n, 3).dueStatus("CI", Bench.E);
            Bench.with(0x02A0 | low).run(1).dueRegister("STWP", n, Bench.WP);
            Bench.with(0x02C0 | low).status(ALL).run(1).dueRegister("STST", n, ALL);
            due("LWPI", Bench.with(0x02E0 | low, 0xA001).run(1).box.state(1), 0xA000);
            Bench.with(0x0300 | low, 0xFFFE).run(1).dueStatus("LIMI", 14).duePc("LIMI", 0x0104);
            due("IDLE", Bench.with(0x0340 | low).run(1).box.state(3), 1);
            Bench.with(0x0360 | low).status(ALL).run(1).dueStatus("RSET", 0xFE00);
            Bench.with(0x0380 | low).register(14, 0x0300).run(1).duePc("RTWP", 0x0300);
            for (int word = 0x03A0; word < 0x0400; word += 32) {
                Bench bench = Bench.with(word | low).status(ALL).run(1).duePc("nothing", 0x0102);
                due("nothing", bench.box.state(1) + bench.box.state(2) + bench.box.state(3), Bench.WP + ALL);
            }
        }
    }

    // "RTWP: ST is REGISTER 15 (bits that there are), PC REGISTER 14, WP REGISTER 13 (all got first)"
    private static void allGotFirst() {
        Bench bench = Bench.with(0x0380).register(13, 0x2001).register(14, 0x3003).register(15, 0xFFFF);
        bench.words(1, 0x201A, 0x1111, 0x2222, 0x0003).run(1);
        bench.duePc("PC of the old REGISTER 14", 0x3002).dueStatus("ST of the old REGISTER 15", ALL);
        due("WP", bench.box.state(1), 0x2000);
    }

    // "PC is 2 d more", d "a number with a sign"
    private static void jumpsForAndBack() {
        int[][] rows = {{0x00, 0x0102}, {0x01, 0x0104}, {0x7F, 0x0200}, {0x80, 0x0002}, {0xFF, 0x0100}, {0xFE, 0x00FE}};
        for (int[] row : rows) {
            Bench.with(0x1000 | row[0]).run(1).duePc("JMP " + row[0], row[1]);
            Bench.with(0x1300 | row[0]).status(0).run(1).duePc("JEQ that does not", 0x0102);
        }
    }

    // "0000 to 01FF, 0320 to 033F, 0780 to 07FF, 0C00 to 0FFF: none: it HALTS"
    private static void wordsThatAreNone() {
        for (int word = 0; word < 0x1100; word++) {
            boolean none = word < 0x0200 || word >= 0x0320 && word < 0x0340 || word >= 0x0780 && word < 0x0800
                || word >= 0x0C00 && word < 0x1000;
            boolean isX = word >= 0x0480 && word < 0x04C0;
            if (!isX) {
                Bench bench = Bench.with(word).status(ALL).run(1, none ? 0 : 1);
                due(Integer.toHexString(word), bench.box.state(4), none ? 0 : 1);
                due(Integer.toHexString(word), bench.box.state(3), none ? 2 : word >> 5 == 0x1A ? 1 : 0);
                if (none) {
                    bench.duePc("PC at it still", 0x0100).dueStatus("ST", ALL);
                }
            }
        }
    }

    // "ENTER .. w, p are the WORDS there and behind it; then .."; "PC and WP lose their lowest bit"
    private static void enteredWords() {
        Bench over = Bench.with(0x0420, 0x201C).words(1, 0x201C, 0x2001, 0x0301).status(ALL).run(1);
        over.duePc("p is got first", 0x0300).dueWord("REGISTER 14 lies over it", 0x201C, 0x0104);
        over.dueRegister("REGISTER 13", 13, Bench.WP).dueRegister("REGISTER 15", 15, ALL);
        Bench odd = Bench.with(0x0411).register(1, 0x2041).words(1, 0x2040, 0xA001, 0x0301).run(1);
        odd.duePc("an odd address", 0x0300);
        due("WP", odd.box.state(1), 0xA000);
        Bench round = Bench.with(0x0420, 0xFFFF).words(1, 0xFFFE, 0xA000).run(1);
        round.duePc("the WORD behind goes round", Bench.WP);
        Bench same = Bench.with(0x0420, 0x2000).words(1, 0x2000, Bench.WP, 0x0300).run(1);
        same.dueRegister("the same workspace", 13, Bench.WP).dueRegister("the same workspace", 14, 0x0104);
    }
}
