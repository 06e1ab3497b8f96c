import java.util.NoSuchElementException;

/** A home computer whose registers lie in its memory. The document's promises are its face. */
public final class WorkspaceBox {
    public static final int NONE = -1;

    private static final int TAPE_SIZE = 1000;
    private static final int FED_AT_ONCE = 20;
    private static final int MOST_INSTRUCTIONS = 2000;

    private static final int ADDRESSES = 0x10000;
    private static final int ROM_SIZE = 0x2000;
    private static final int VRAM_SIZE = 0x4000;
    private static final int GROM_SIZE = 0x2000;

    private static final int AREA_ROM = 0;
    private static final int AREA_MEMORY = 1;
    private static final int AREA_VRAM = 2;
    private static final int AREA_GROM = 3;

    private static final int FIRST_REGISTER = 16;

    private final Bytes tape;
    private final Picture picture;
    private final Grom grom;
    private final Wires wires;
    private final Memory memory;
    private final Processor processor;
    private int tapeLength;

    public WorkspaceBox() {
        tape = new Bytes(TAPE_SIZE);
        picture = new Picture();
        grom = new Grom();
        wires = new Wires(picture);
        memory = new Memory(picture, grom);
        processor = new Processor(memory, picture, wires);
    }

    public int feed(int a, int b, int c, int d, int e) {
        if (tapeLength > TAPE_SIZE - FED_AT_ONCE) {
            return NONE;
        }
        append(a);
        append(b);
        append(c);
        append(d);
        append(e);
        return tapeLength;
    }

    private void append(int number) {
        for (int shift = 24; shift >= 0; shift -= 8) {
            tape.put(tapeLength, number >> shift);
            tapeLength++;
        }
    }

    public int end(int n) {
        if (n < 0 || n > tapeLength) {
            return NONE;
        }
        tapeLength = n;
        return n;
    }

    public int load(int area, int address) {
        int size = sizeOfArea(area);
        if (size == NONE || address < 0 || address > size - tapeLength) {
            return NONE;
        }
        int count = tapeLength;
        for (int i = 0; i < count; i++) {
            putInArea(area, address + i, tape.get(i));
        }
        tapeLength = 0;
        return count;
    }

    private static int sizeOfArea(int area) {
        switch (area) {
            case AREA_ROM: return ROM_SIZE;
            case AREA_MEMORY: return ADDRESSES;
            case AREA_VRAM: return VRAM_SIZE;
            case AREA_GROM: return GROM_SIZE;
            default: return NONE;
        }
    }

    private void putInArea(int area, int address, int value) {
        switch (area) {
            case AREA_ROM: memory.rom.put(address, value); break;
            case AREA_MEMORY: memory.putByte(address, value); break;
            case AREA_VRAM: picture.cells.put(address, value); break;
            default: grom.cells.put(address, value); break;
        }
    }

    public void reset() {
        processor.restart();
    }

    public int run(int n) throws IllegalArgumentException {
        if (n < 0 || n > MOST_INSTRUCTIONS) {
            throw new IllegalArgumentException("from 0 to 2000 instructions can be done at once");
        }
        for (int done = 0; done < n; done++) {
            if (!processor.fetch()) {
                return done;
            }
            processor.perform();
        }
        return n;
    }

    public int state(int what) {
        switch (what) {
            case 0: return processor.pc;
            case 1: return processor.wp;
            case 2: return processor.st;
            case 3: return processor.mode;
            case 4: return processor.instructionsDone;
            case 5: return processor.interruptsDone;
            default: break;
        }
        if (what < FIRST_REGISTER || what > FIRST_REGISTER + 15) {
            return NONE;
        }
        return memory.wordAt(processor.wp + 2 * (what - FIRST_REGISTER));
    }

    public int peek(int address) {
        if (address < 0 || address >= ADDRESSES) {
            return NONE;
        }
        return memory.storedAt(address);
    }

    public boolean set(int what, int v) {
        switch (what) {
            case 0: processor.pc = v & Processor.EVEN; break;
            case 1: processor.wp = v & Processor.EVEN; break;
            case 2: processor.st = v & Processor.STATUS_BITS; break;
            default: return false;
        }
        processor.mode = Processor.RUNS;
        return true;
    }

    public int picture(int what) {
        switch (what) {
            case 0: return picture.address;
            case 1: return picture.buffer;
            case 2: return picture.latch == Picture.EMPTY ? 0 : 1;
            case 3: return picture.shown ? 1 : 0;
            default: break;
        }
        if (what < 8 || what > 15) {
            return NONE;
        }
        return picture.registers[what - 8];
    }

    public int vram(int address) throws NoSuchElementException {
        if (address < 0 || address >= VRAM_SIZE) {
            throw new NoSuchElementException("VRAM has the addresses 0 to 16383");
        }
        return picture.cells.get(address);
    }

    public int grom(int what) {
        switch (what) {
            case 0: return grom.address;
            case 1: return grom.buffer;
            case 2: return grom.latchFull ? 1 : 0;
            default: return NONE;
        }
    }

    public void frame() {
        picture.shown = true;
    }

    public boolean interrupt(int level) {
        if (level < 2 || level > Processor.HIGHEST_LEVEL) {
            return false;
        }
        processor.told |= 1 << level;
        return true;
    }

    public boolean key(int column, int row, boolean down) {
        if (column < 0 || column > 7 || row < 0 || row > 7) {
            return false;
        }
        wires.press(column, row, down);
        return true;
    }

    public int out(int bit) {
        return Wires.exists(bit) ? wires.sent(bit) : NONE;
    }

    public int in(int bit) {
        return Wires.exists(bit) ? wires.coming(bit) : NONE;
    }

    public int pixel(int x, int y) {
        if (x < 0 || x > 255 || y < 0 || y > 191) {
            return NONE;
        }
        return picture.colourAt(x, y);
    }

    /** A row of bytes, eight to a cell, so that even many boxes need little room. */
    private static final class Bytes {
        private final long[] cells;

        Bytes(int size) {
            cells = new long[size < 8 ? 1 : size / 8];
        }

        int get(int index) {
            int cell = index >> 3;
            if (cell < 0 || cell >= cells.length) {
                return 0;
            }
            return (int) (cells[cell] >>> ((index & 7) << 3)) & 255;
        }

        void put(int index, int value) {
            int cell = index >> 3;
            if (cell < 0 || cell >= cells.length) {
                return;
            }
            int shift = (index & 7) << 3;
            long others = cells[cell] & ~(255L << shift);
            cells[cell] = others | ((long) (value & 255)) << shift;
        }
    }

    /** The picture chip behind its ports. */
    private static final class Picture {
        static final int EMPTY = -1;
        private static final int LAST = VRAM_SIZE - 1;
        private static final int SHOWS = 64;
        private static final int INTERRUPTS = 32;

        final Bytes cells = new Bytes(VRAM_SIZE);
        final int[] registers = new int[8];
        int address;
        int buffer;
        int latch = EMPTY;
        boolean shown;

        int readData() {
            int given = buffer;
            buffer = cells.get(address);
            address = (address + 1) & LAST;
            latch = EMPTY;
            return given;
        }

        int readStatus() {
            int given = shown ? 128 : 0;
            shown = false;
            latch = EMPTY;
            return given;
        }

        void writeData(int value) {
            cells.put(address, value);
            buffer = value;
            address = (address + 1) & LAST;
            latch = EMPTY;
        }

        void writeControl(int value) {
            if (latch == EMPTY) {
                latch = value;
                return;
            }
            int lower = latch;
            latch = EMPTY;
            int kind = value & 0xC0;
            if (kind == 0x80) {
                registers[value & 7] = lower;
                return;
            }
            address = (value & 63) << 8 | lower;
            if (kind == 0) {
                buffer = cells.get(address);
                address = (address + 1) & LAST;
            }
        }

        boolean asksForInterrupt() {
            return shown && (registers[1] & INTERRUPTS) != 0;
        }

        int colourAt(int x, int y) {
            int backdrop = registers[7] & 15;
            if ((registers[1] & SHOWS) == 0) {
                return backdrop;
            }
            int name = cells.get((registers[2] & 15) * 1024 + 32 * (y >> 3) + (x >> 3));
            int pattern = cells.get((registers[4] & 7) * 2048 + 8 * name + (y & 7));
            int colours = cells.get((registers[3] * 64 + (name >> 3)) & LAST);
            boolean lit = (pattern >> (7 - (x & 7)) & 1) == 1;
            int colour = lit ? colours >> 4 : colours & 15;
            return colour == 0 ? backdrop : colour;
        }
    }

    /** The store of bytes that is read one behind the other. */
    private static final class Grom {
        private static final int COUNTED = GROM_SIZE - 1;
        private static final int KEPT = 0xE000;

        final Bytes cells = new Bytes(GROM_SIZE);
        int address;
        int buffer;
        boolean latchFull;

        int readData() {
            int given = buffer;
            buffer = address < GROM_SIZE ? cells.get(address) : 0;
            address = (address & KEPT) | ((address + 1) & COUNTED);
            latchFull = false;
            return given;
        }

        int readAddress() {
            int given = address >> 8;
            address = (address & 255) * 257;
            latchFull = false;
            return given;
        }

        void writeAddress(int value) {
            if (!latchFull) {
                latchFull = true;
                address = value << 8 | (address & 255);
                return;
            }
            latchFull = false;
            address = (address & 0xFF00) | value;
            buffer = address < GROM_SIZE ? cells.get(address) : 0;
            address = (address & KEPT) | ((address + 1) & COUNTED);
        }
    }

    /** The bus of single bits, with the keys. */
    private static final class Wires {
        static final int LAST = 4095;
        static final int PICTURE_BIT = 2;
        private static final int FIRST_ROW_BIT = 3;
        private static final int LAST_ROW_BIT = 10;
        private static final int FIRST_COLUMN_BIT = 18;

        private final Picture picture;
        private final long[] went = new long[64];
        private long keysDown;

        Wires(Picture picture) {
            this.picture = picture;
        }

        static boolean exists(int bit) {
            return bit >= 0 && bit <= LAST;
        }

        int sent(int bit) {
            return (int) (went[(bit & LAST) >> 6] >>> (bit & 63)) & 1;
        }

        void send(int bit, int value) {
            int cell = (bit & LAST) >> 6;
            long place = 1L << (bit & 63);
            went[cell] = (value & 1) == 1 ? went[cell] | place : went[cell] & ~place;
        }

        int coming(int bit) {
            if (bit == PICTURE_BIT) {
                return picture.shown ? 0 : 1;
            }
            if (bit < FIRST_ROW_BIT || bit > LAST_ROW_BIT) {
                return sent(bit);
            }
            int column = sent(FIRST_COLUMN_BIT)
                + 2 * sent(FIRST_COLUMN_BIT + 1)
                + 4 * sent(FIRST_COLUMN_BIT + 2);
            return (keysDown >>> (8 * column + bit - FIRST_ROW_BIT) & 1) == 1 ? 0 : 1;
        }

        void press(int column, int row, boolean down) {
            long place = 1L << (8 * column + row);
            keysDown = down ? keysDown | place : keysDown & ~place;
        }
    }

    /** All that has an address of the processor's. */
    private static final class Memory {
        private static final int LAST = ADDRESSES - 1;
        // The lowest bit is kept beside the six highest, for a port has no odd address.
        private static final int PORT_BITS = 0xFC01;
        private static final int PICTURE_READ = 0x8800;
        private static final int PICTURE_WRITE = 0x8C00;
        private static final int GROM_READ = 0x9800;
        private static final int GROM_WRITE = 0x9C00;
        private static final int SECOND = 2;

        private static final int LOW_RAM = 0x2000;
        private static final int LOW_RAM_END = 0x4000;
        private static final int PAD = 0x8000;
        private static final int PAD_END = 0x8400;
        private static final int HIGH_RAM = 0xA000;
        // The two parts of RAM lie behind one another in one row.
        private static final int HIGH_RAM_SHIFT = 0x8000;

        final Bytes rom = new Bytes(ROM_SIZE);
        private final Bytes ram = new Bytes(0x8000);
        private final Bytes pad = new Bytes(256);
        private final Picture picture;
        private final Grom grom;

        Memory(Picture picture, Grom grom) {
            this.picture = picture;
            this.grom = grom;
        }

        int wordAt(int address) {
            int higher = byteAt(address & Processor.EVEN);
            return higher << 8 | byteAt(address | 1);
        }

        void putWord(int address, int value) {
            putByte(address & Processor.EVEN, value >> 8);
            putByte(address | 1, value);
        }

        int byteAt(int address) {
            int place = address & LAST;
            boolean second = (place & SECOND) != 0;
            switch (place & PORT_BITS) {
                case PICTURE_READ: return second ? picture.readStatus() : picture.readData();
                case GROM_READ: return second ? grom.readAddress() : grom.readData();
                default: return storedAt(place);
            }
        }

        void putByte(int address, int value) {
            int place = address & LAST;
            boolean second = (place & SECOND) != 0;
            int kept = value & 255;
            switch (place & PORT_BITS) {
                case PICTURE_WRITE:
                    if (second) {
                        picture.writeControl(kept);
                    } else {
                        picture.writeData(kept);
                    }
                    break;
                case GROM_WRITE:
                    if (second) {
                        grom.writeAddress(kept);
                    }
                    break;
                default:
                    store(place, kept);
                    break;
            }
        }

        int storedAt(int place) {
            if (place < LOW_RAM) {
                return rom.get(place);
            }
            if (place < LOW_RAM_END) {
                return ram.get(place - LOW_RAM);
            }
            if (place >= HIGH_RAM) {
                return ram.get(place - HIGH_RAM_SHIFT);
            }
            return place >= PAD && place < PAD_END ? pad.get(place & 255) : 0;
        }

        private void store(int place, int value) {
            if (place >= LOW_RAM && place < LOW_RAM_END) {
                ram.put(place - LOW_RAM, value);
            } else if (place >= HIGH_RAM) {
                ram.put(place - HIGH_RAM_SHIFT, value);
            } else if (place >= PAD && place < PAD_END) {
                pad.put(place & 255, value);
            }
        }
    }

    /** The processor: every REGISTER of its lies in the memory, at WP. */
    private static final class Processor {
        static final int RUNS = 0;
        static final int SLEEPS = 1;
        static final int HALTS = 2;
        static final int EVEN = 0xFFFE;
        static final int STATUS_BITS = 0xFE0F;
        static final int HIGHEST_LEVEL = 15;

        private static final int NO_LEVEL = 16;
        private static final int WORD = 0xFFFF;
        private static final int WORD_SIGN = 0x8000;
        private static final int BYTE_SIGN = 0x80;
        private static final int MASK = 15;

        private static final int FLAG_L = 0x8000;
        private static final int FLAG_G = 0x4000;
        private static final int FLAG_E = 0x2000;
        private static final int FLAG_C = 0x1000;
        private static final int FLAG_V = 0x0800;
        private static final int FLAG_P = 0x0400;
        private static final int FLAG_X = 0x0200;

        private static final int OP_LI = 0x0200;
        private static final int OP_AI = 0x0220;
        private static final int OP_ANDI = 0x0240;
        private static final int OP_ORI = 0x0260;
        private static final int OP_CI = 0x0280;
        private static final int OP_STWP = 0x02A0;
        private static final int OP_STST = 0x02C0;
        private static final int OP_LWPI = 0x02E0;
        private static final int OP_LIMI = 0x0300;
        private static final int OP_IDLE = 0x0340;
        private static final int OP_RSET = 0x0360;
        private static final int OP_RTWP = 0x0380;
        private static final int OP_BLWP = 0x0400;
        private static final int OP_B = 0x0440;
        private static final int OP_X = 0x0480;
        private static final int OP_CLR = 0x04C0;
        private static final int OP_NEG = 0x0500;
        private static final int OP_INV = 0x0540;
        private static final int OP_INC = 0x0580;
        private static final int OP_INCT = 0x05C0;
        private static final int OP_DEC = 0x0600;
        private static final int OP_DECT = 0x0640;
        private static final int OP_BL = 0x0680;
        private static final int OP_SWPB = 0x06C0;
        private static final int OP_SETO = 0x0700;
        private static final int OP_ABS = 0x0740;
        private static final int OP_SRA = 0x0800;
        private static final int OP_SRL = 0x0900;
        private static final int OP_SLA = 0x0A00;
        private static final int OP_JMP = 0x1000;
        private static final int OP_SBO = 0x1D00;
        private static final int OP_SBZ = 0x1E00;
        private static final int OP_COC = 0x2000;
        private static final int OP_CZC = 0x2400;
        private static final int OP_XOR = 0x2800;
        private static final int OP_XOP = 0x2C00;
        private static final int OP_LDCR = 0x3000;
        private static final int OP_STCR = 0x3400;
        private static final int OP_MPY = 0x3800;
        private static final int OP_SZC = 0x4000;
        private static final int OP_S = 0x6000;
        private static final int OP_C = 0x8000;
        private static final int OP_A = 0xA000;
        private static final int OP_MOV = 0xC000;

        private final Memory memory;
        private final Picture picture;
        private final Wires wires;
        int pc;
        int wp;
        int st;
        int mode = HALTS;
        int instructionsDone;
        int interruptsDone;
        int told;
        private int instruction;
        // While this is so, an instruction must be done before an interrupt may come.
        private boolean shielded;

        Processor(Memory memory, Picture picture, Wires wires) {
            this.memory = memory;
            this.picture = picture;
            this.wires = wires;
        }

        void restart() {
            wp = memory.wordAt(0) & EVEN;
            pc = memory.wordAt(2) & EVEN;
            st = 0;
            mode = RUNS;
            told = 0;
        }

        /** Whether there is an instruction to be done; an interrupt that is due has come then. */
        boolean fetch() {
            if (mode == HALTS) {
                return false;
            }
            if (!shielded) {
                takeInterrupt();
            }
            return mode == RUNS && fetchInstruction();
        }

        private void takeInterrupt() {
            int level = askedLevel();
            if (level > (st & MASK)) {
                return;
            }
            enter(4 * level);
            st = (st & ~MASK) | (level - 1);
            told &= ~(1 << level);
            interruptsDone++;
            mode = RUNS;
        }

        private int askedLevel() {
            if (picture.asksForInterrupt() && wires.sent(Wires.PICTURE_BIT) == 1) {
                return 1;
            }
            if (told == 0) {
                return NO_LEVEL;
            }
            for (int level = 2; level <= HIGHEST_LEVEL; level++) {
                if ((told >> level & 1) == 1) {
                    return level;
                }
            }
            return NO_LEVEL;
        }

        // An X is resolved here, so that what it names is done like any other instruction.
        private boolean fetchInstruction() {
            int start = pc;
            instruction = nextWord();
            boolean none = isNone(instruction);
            if (isExecute(instruction)) {
                instruction = memory.wordAt(operandAddress(instruction, false));
                none = isNone(instruction) || isExecute(instruction);
            }
            if (none) {
                pc = start;
                mode = HALTS;
            }
            return !none;
        }

        private static boolean isExecute(int word) {
            return (word & 0xFFC0) == OP_X;
        }

        private static boolean isNone(int word) {
            return word < 0x0200
                || word >= 0x0320 && word <= 0x033F
                || word >= 0x0780 && word <= 0x07FF
                || word >= 0x0C00 && word <= 0x0FFF;
        }

        /** Does the instruction that fetch has got. */
        void perform() {
            int word = instruction;
            shielded = false;
            instructionsDone++;
            if (word < OP_STWP) {
                doImmediate(word);
            } else if (word < OP_BLWP) {
                doControl(word);
            } else if (word < OP_SRA) {
                doOneOperand(word);
            } else if (word < OP_JMP) {
                doShift(word);
            } else if (word < OP_SBO) {
                doJump(word);
            } else if (word < OP_COC) {
                doSingleBit(word);
            } else if (word < OP_LDCR) {
                doWithRegister(word);
            } else if (word < OP_MPY) {
                doManyBits(word);
            } else if (word < OP_SZC) {
                doLongArithmetic(word);
            } else {
                doTwoOperands(word);
            }
        }

        private int nextWord() {
            int word = memory.wordAt(pc);
            pc = (pc + 2) & EVEN;
            return word;
        }

        private int registerAddress(int n) {
            return (wp + 2 * n) & WORD;
        }

        private int operandAddress(int word, boolean bytes) {
            int n = word & 15;
            int register = registerAddress(n);
            int address;
            switch (word >> 4 & 3) {
                case 0:
                    return register;
                case 1:
                    return memory.wordAt(register);
                case 2:
                    address = memory.wordAt(pc);
                    pc = (pc + 2) & EVEN;
                    return n == 0 ? address : (address + memory.wordAt(register)) & WORD;
                default:
                    address = memory.wordAt(register);
                    memory.putWord(register, address + (bytes ? 1 : 2));
                    return address;
            }
        }

        // Interrupts, BLWP and XOP all come here, and no interrupt may come right behind them.
        private void enter(int address) {
            int newWp = memory.wordAt(address);
            int newPc = memory.wordAt(address + 2);
            int oldWp = wp;
            wp = newWp & EVEN;
            memory.putWord(registerAddress(13), oldWp);
            memory.putWord(registerAddress(14), pc);
            memory.putWord(registerAddress(15), st);
            pc = newPc & EVEN;
            shielded = true;
        }

        private void flag(int bit, boolean on) {
            st = on ? st | bit : st & ~bit;
        }

        private void compare(int a, int b, boolean bytes) {
            int signedA = bytes ? (byte) a : (short) a;
            int signedB = bytes ? (byte) b : (short) b;
            flag(FLAG_L, a > b);
            flag(FLAG_G, signedA > signedB);
            flag(FLAG_E, a == b);
        }

        private void parity(int value) {
            flag(FLAG_P, (Integer.bitCount(value & 255) & 1) == 1);
        }

        private int add(int goal, int source, boolean bytes) {
            int all = bytes ? 255 : WORD;
            int sign = bytes ? BYTE_SIGN : WORD_SIGN;
            int sum = goal + source;
            int result = sum & all;
            compare(result, 0, bytes);
            flag(FLAG_C, sum > all);
            flag(FLAG_V, ((goal ^ result) & (source ^ result) & sign) != 0);
            return result;
        }

        private int subtract(int goal, int source, boolean bytes) {
            int all = bytes ? 255 : WORD;
            int sign = bytes ? BYTE_SIGN : WORD_SIGN;
            int result = (goal - source) & all;
            compare(result, 0, bytes);
            flag(FLAG_C, source <= goal);
            flag(FLAG_V, ((goal ^ source) & (goal ^ result) & sign) != 0);
            return result;
        }

        private void doImmediate(int word) {
            int kind = word & 0xFFE0;
            int register = registerAddress(word & 15);
            int had = kind == OP_LI ? 0 : memory.wordAt(register);
            int given = nextWord();
            if (kind == OP_CI) {
                compare(had, given, false);
                return;
            }
            int result;
            switch (kind) {
                case OP_AI: result = add(had, given, false); break;
                case OP_ANDI: result = had & given; break;
                case OP_ORI: result = had | given; break;
                default: result = given; break;
            }
            if (kind != OP_AI) {
                compare(result, 0, false);
            }
            memory.putWord(register, result);
        }

        private void doControl(int word) {
            switch (word & 0xFFE0) {
                case OP_STWP: memory.putWord(registerAddress(word & 15), wp); break;
                case OP_STST: memory.putWord(registerAddress(word & 15), st); break;
                case OP_LWPI: wp = nextWord() & EVEN; break;
                case OP_LIMI: st = (st & ~MASK) | (nextWord() & MASK); break;
                case OP_IDLE: mode = SLEEPS; break;
                case OP_RSET: st &= ~MASK; break;
                case OP_RTWP: giveBack(); break;
                default: break;
            }
        }

        private void giveBack() {
            int oldSt = memory.wordAt(registerAddress(15));
            int oldPc = memory.wordAt(registerAddress(14));
            int oldWp = memory.wordAt(registerAddress(13));
            st = oldSt & STATUS_BITS;
            pc = oldPc & EVEN;
            wp = oldWp & EVEN;
        }

        private void doOneOperand(int word) {
            int address = operandAddress(word, false);
            int kind = word & 0xFFC0;
            switch (kind) {
                case OP_BLWP:
                    enter(address);
                    break;
                case OP_B:
                    pc = address & EVEN;
                    break;
                case OP_BL:
                    memory.putWord(registerAddress(11), pc);
                    pc = address & EVEN;
                    break;
                default:
                    memory.putWord(address, changed(kind, memory.wordAt(address)));
                    break;
            }
        }

        private int changed(int kind, int had) {
            switch (kind) {
                case OP_CLR: return 0;
                case OP_NEG: return subtract(0, had, false);
                case OP_INV: return inverted(had);
                case OP_INC: return add(had, 1, false);
                case OP_INCT: return add(had, 2, false);
                case OP_DEC: return add(had, 0xFFFF, false);
                case OP_DECT: return add(had, 0xFFFE, false);
                case OP_SWPB: return (had << 8 | had >> 8) & WORD;
                case OP_SETO: return WORD;
                case OP_ABS: return sizeOf(had);
                default: return had;
            }
        }

        private int inverted(int had) {
            int result = ~had & WORD;
            compare(result, 0, false);
            return result;
        }

        private int sizeOf(int had) {
            compare(had, 0, false);
            flag(FLAG_C, false);
            flag(FLAG_V, had == WORD_SIGN);
            return had >= WORD_SIGN ? -had & WORD : had;
        }

        private void doShift(int word) {
            int kind = word & 0xFF00;
            int register = registerAddress(word & 15);
            int value = memory.wordAt(register);
            int steps = word >> 4 & 15;
            if (steps == 0) {
                steps = memory.wordAt(wp) & 15;
            }
            if (steps == 0) {
                steps = 16;
            }
            boolean turned = false;
            int gone = 0;
            for (int step = 0; step < steps; step++) {
                gone = kind == OP_SLA ? value >> 15 : value & 1;
                int next = shifted(kind, value);
                turned |= ((next ^ value) & WORD_SIGN) != 0;
                value = next;
            }
            compare(value, 0, false);
            flag(FLAG_C, gone == 1);
            if (kind == OP_SLA) {
                flag(FLAG_V, turned);
            }
            memory.putWord(register, value);
        }

        private static int shifted(int kind, int value) {
            switch (kind) {
                case OP_SRA: return value >> 1 | (value & WORD_SIGN);
                case OP_SRL: return value >> 1;
                case OP_SLA: return value << 1 & WORD;
                default: return value >> 1 | (value & 1) << 15;
            }
        }

        private void doJump(int word) {
            if (jumps(word >> 8)) {
                pc = (pc + 2 * (byte) word) & EVEN;
            }
        }

        private boolean jumps(int kind) {
            boolean l = (st & FLAG_L) != 0;
            boolean g = (st & FLAG_G) != 0;
            boolean e = (st & FLAG_E) != 0;
            switch (kind) {
                case 0x10: return true;
                case 0x11: return !g && !e;
                case 0x12: return !l || e;
                case 0x13: return e;
                case 0x14: return l || e;
                case 0x15: return g;
                case 0x16: return !e;
                case 0x17: return (st & FLAG_C) == 0;
                case 0x18: return (st & FLAG_C) != 0;
                case 0x19: return (st & FLAG_V) == 0;
                case 0x1A: return !l && !e;
                case 0x1B: return l && !e;
                default: return (st & FLAG_P) != 0;
            }
        }

        private int baseBit() {
            return memory.wordAt(registerAddress(12)) >> 1 & Wires.LAST;
        }

        private void doSingleBit(int word) {
            int bit = (baseBit() + (byte) word) & Wires.LAST;
            switch (word & 0xFF00) {
                case OP_SBO: wires.send(bit, 1); break;
                case OP_SBZ: wires.send(bit, 0); break;
                default: flag(FLAG_E, wires.coming(bit) == 1); break;
            }
        }

        private void doManyBits(int word) {
            int count = word >> 6 & 15;
            if (count == 0) {
                count = 16;
            }
            boolean bytes = count <= 8;
            int address = operandAddress(word, bytes);
            int value = bytes ? memory.byteAt(address) : memory.wordAt(address);
            int base = baseBit();
            if (word < OP_STCR) {
                sendBits(base, count, value);
            } else {
                value = comingBits(base, count);
            }
            compare(value, 0, bytes);
            if (bytes) {
                parity(value);
            }
            if (word >= OP_STCR) {
                putOperand(address, value, bytes);
            }
        }

        private void sendBits(int base, int count, int value) {
            for (int i = 0; i < count; i++) {
                wires.send((base + i) & Wires.LAST, value >> i);
            }
        }

        private int comingBits(int base, int count) {
            int value = 0;
            for (int i = 0; i < count; i++) {
                value |= wires.coming((base + i) & Wires.LAST) << i;
            }
            return value;
        }

        private void putOperand(int address, int value, boolean bytes) {
            if (bytes) {
                memory.putByte(address, value);
            } else {
                memory.putWord(address, value);
            }
        }

        private void doWithRegister(int word) {
            int source = operandAddress(word, false);
            int kind = word & 0xFC00;
            int n = word >> 6 & 15;
            if (kind == OP_XOP) {
                enter(0x40 + 4 * n);
                memory.putWord(registerAddress(11), source);
                flag(FLAG_X, true);
                return;
            }
            int value = memory.wordAt(source);
            int register = registerAddress(n);
            int had = memory.wordAt(register);
            switch (kind) {
                case OP_COC:
                    flag(FLAG_E, (value & ~had) == 0);
                    break;
                case OP_CZC:
                    flag(FLAG_E, (value & had) == 0);
                    break;
                case OP_XOR:
                    compare(had ^ value, 0, false);
                    memory.putWord(register, had ^ value);
                    break;
                default:
                    break;
            }
        }

        private void doLongArithmetic(int word) {
            int value = memory.wordAt(operandAddress(word, false));
            int register = registerAddress(word >> 6 & 15);
            int had = memory.wordAt(register);
            if ((word & 0xFC00) == OP_MPY) {
                int product = value * had;
                memory.putWord(register, product >>> 16);
                memory.putWord(register + 2, product & WORD);
            } else {
                divide(register, had, value);
            }
        }

        private void divide(int register, int higher, int divisor) {
            flag(FLAG_V, divisor <= higher);
            if (divisor <= higher || divisor == 0) {
                return;
            }
            long dividend = (long) higher << 16 | memory.wordAt(register + 2);
            memory.putWord(register, (int) (dividend / divisor));
            memory.putWord(register + 2, (int) (dividend % divisor));
        }

        private void doTwoOperands(int word) {
            boolean bytes = (word & 0x1000) != 0;
            int source = operandAddress(word, bytes);
            int value = bytes ? memory.byteAt(source) : memory.wordAt(source);
            int goal = operandAddress(word >> 6, bytes);
            int had = bytes ? memory.byteAt(goal) : memory.wordAt(goal);
            int kind = word & 0xE000;
            if (kind == OP_C) {
                compare(value, had, bytes);
                if (bytes) {
                    parity(value);
                }
                return;
            }
            int result = combined(kind, value, had, bytes);
            if (bytes) {
                parity(result);
            }
            putOperand(goal, result, bytes);
        }

        private int combined(int kind, int source, int goal, boolean bytes) {
            int result;
            switch (kind) {
                case OP_A: return add(goal, source, bytes);
                case OP_S: return subtract(goal, source, bytes);
                case OP_SZC: result = goal & ~source; break;
                case OP_MOV: result = source; break;
                default: result = goal | source; break;
            }
            compare(result, 0, bytes);
            return result;
        }
    }
}
