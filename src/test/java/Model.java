import java.util.HashMap;
import java.util.Map;
import java.util.NoSuchElementException;

/**
 * The document once more, in the slowest and plainest way and in another shape than WorkspaceBox has
 * (a table of names, flags that are single booleans, one cell for each bit), so that a slip in one of
 * the two shows as a difference.
 */
final class Model {
    private static final Object[][] TABLE = {
        {0xF000, 0x4000, "SZC"}, {0xF000, 0x5000, "SZCB"}, {0xF000, 0x6000, "S"}, {0xF000, 0x7000, "SB"},
        {0xF000, 0x8000, "C"}, {0xF000, 0x9000, "CB"}, {0xF000, 0xA000, "A"}, {0xF000, 0xB000, "AB"},
        {0xF000, 0xC000, "MOV"}, {0xF000, 0xD000, "MOVB"}, {0xF000, 0xE000, "SOC"}, {0xF000, 0xF000, "SOCB"},
        {0xFC00, 0x2000, "COC"}, {0xFC00, 0x2400, "CZC"}, {0xFC00, 0x2800, "XOR"}, {0xFC00, 0x2C00, "XOP"},
        {0xFC00, 0x3000, "LDCR"}, {0xFC00, 0x3400, "STCR"}, {0xFC00, 0x3800, "MPY"}, {0xFC00, 0x3C00, "DIV"},
        {0xFF00, 0x0800, "SRA"}, {0xFF00, 0x0900, "SRL"}, {0xFF00, 0x0A00, "SLA"}, {0xFF00, 0x0B00, "SRC"},
        {0xFFC0, 0x0400, "BLWP"}, {0xFFC0, 0x0440, "B"}, {0xFFC0, 0x0480, "X"}, {0xFFC0, 0x04C0, "CLR"},
        {0xFFC0, 0x0500, "NEG"}, {0xFFC0, 0x0540, "INV"}, {0xFFC0, 0x0580, "INC"}, {0xFFC0, 0x05C0, "INCT"},
        {0xFFC0, 0x0600, "DEC"}, {0xFFC0, 0x0640, "DECT"}, {0xFFC0, 0x0680, "BL"}, {0xFFC0, 0x06C0, "SWPB"},
        {0xFFC0, 0x0700, "SETO"}, {0xFFC0, 0x0740, "ABS"},
        {0xFFE0, 0x0200, "LI"}, {0xFFE0, 0x0220, "AI"}, {0xFFE0, 0x0240, "ANDI"}, {0xFFE0, 0x0260, "ORI"},
        {0xFFE0, 0x0280, "CI"}, {0xFFE0, 0x02A0, "STWP"}, {0xFFE0, 0x02C0, "STST"}, {0xFFE0, 0x02E0, "LWPI"},
        {0xFFE0, 0x0300, "LIMI"}, {0xFFE0, 0x0340, "IDLE"}, {0xFFE0, 0x0360, "RSET"}, {0xFFE0, 0x0380, "RTWP"},
        {0xFFE0, 0x03A0, "CKON"}, {0xFFE0, 0x03C0, "CKOF"}, {0xFFE0, 0x03E0, "LREX"},
        {0xFF00, 0x1000, "JMP"}, {0xFF00, 0x1100, "JLT"}, {0xFF00, 0x1200, "JLE"}, {0xFF00, 0x1300, "JEQ"},
        {0xFF00, 0x1400, "JHE"}, {0xFF00, 0x1500, "JGT"}, {0xFF00, 0x1600, "JNE"}, {0xFF00, 0x1700, "JNC"},
        {0xFF00, 0x1800, "JOC"}, {0xFF00, 0x1900, "JNO"}, {0xFF00, 0x1A00, "JL"}, {0xFF00, 0x1B00, "JH"},
        {0xFF00, 0x1C00, "JOP"}, {0xFF00, 0x1D00, "SBO"}, {0xFF00, 0x1E00, "SBZ"}, {0xFF00, 0x1F00, "TB"}};
    private static final String[] NAMES = new String[65536];

    static {
        for (Object[] row : TABLE) {
            int mask = (Integer) row[0];
            int value = (Integer) row[1];
            for (int word = 0; word < 65536; word++) {
                if ((word & mask) == value) {
                    NAMES[word] = (String) row[2];
                }
            }
        }
    }

    /** How often an instruction of each name was done, so that a test can see that none was left out. */
    static final Map<String, Integer> DONE = new HashMap<>();
    static int pictureInterrupts = 0;
    static int toldInterrupts = 0;
    static int halts = 0;

    private final int[] tape = new int[1000];
    private int taped;
    private final int[] mem = new int[65536];
    private final int[] vram = new int[16384];
    private final int[] groms = new int[8192];
    private int pc;
    private int wp;
    private boolean l;
    private boolean g;
    private boolean e;
    private boolean c;
    private boolean v;
    private boolean p;
    private boolean x;
    private int mask;
    private String mode = "halts";
    private int done;
    private int interrupts;
    private final boolean[] told = new boolean[16];
    private boolean instructionFirst;
    private int va;
    private int vb;
    private Integer vl;
    private boolean f;
    private final int[] vr = new int[8];
    private int ga;
    private int gb;
    private boolean gl;
    private final boolean[] out = new boolean[4096];
    private final boolean[][] keys = new boolean[8][8];

    int feed(int... numbers) {
        if (taped + 20 > 1000) {
            return -1;
        }
        for (int number : numbers) {
            tape[taped++] = number >>> 24;
            tape[taped++] = number >>> 16 & 255;
            tape[taped++] = number >>> 8 & 255;
            tape[taped++] = number & 255;
        }
        return taped;
    }

    int end(int n) {
        if (n < 0 || taped < n) {
            return -1;
        }
        taped = n;
        return n;
    }

    int load(int area, int address) {
        if (area < 0 || area > 3 || address < 0) {
            return -1;
        }
        long size = area == 0 ? 8192 : area == 1 ? 65536 : area == 2 ? 16384 : 8192;
        if ((long) address + taped > size) {
            return -1;
        }
        for (int i = 0; i < taped; i++) {
            int at = address + i;
            if (area == 0) {
                mem[at] = tape[i];
            } else if (area == 1) {
                write(at, tape[i]);
            } else if (area == 2) {
                vram[at] = tape[i];
            } else {
                groms[at] = tape[i];
            }
        }
        int count = taped;
        taped = 0;
        return count;
    }

    void reset() {
        wp = even(mem[0] * 256 + mem[1]);
        pc = even(mem[2] * 256 + mem[3]);
        setStatus(0);
        mode = "runs";
        java.util.Arrays.fill(told, false);
    }

    int run(int n) {
        if (n < 0 || n > 2000) {
            throw new IllegalArgumentException();
        }
        int before = done;
        while (done - before < n && !mode.equals("halts")) {
            int level = instructionFirst ? 99 : level();
            if (level <= mask) {
                comes(level);
            }
            if (mode.equals("sleeps")) {
                break;
            }
            one();
        }
        return done - before;
    }

    int state(int what) {
        switch (what) {
            case 0: return pc;
            case 1: return wp;
            case 2: return status();
            case 3: return mode.equals("runs") ? 0 : mode.equals("sleeps") ? 1 : 2;
            case 4: return done;
            case 5: return interrupts;
            default: return what >= 16 && what < 32 ? register(what - 16) : -1;
        }
    }

    int peek(int address) {
        if (address < 0 || address > 65535) {
            return -1;
        }
        if (address >= 0x8400 && address < 0xA000) {
            return 0;
        }
        return read(address);
    }

    boolean set(int what, int value) {
        if (what == 0) {
            pc = even(value);
        } else if (what == 1) {
            wp = even(value);
        } else if (what == 2) {
            setStatus(value);
        } else {
            return false;
        }
        mode = "runs";
        return true;
    }

    int picture(int what) {
        switch (what) {
            case 0: return va;
            case 1: return vb;
            case 2: return vl == null ? 0 : 1;
            case 3: return f ? 1 : 0;
            default: return what >= 8 && what < 16 ? vr[what - 8] : -1;
        }
    }

    int vram(int address) {
        if (address < 0 || address > 16383) {
            throw new NoSuchElementException();
        }
        return vram[address];
    }

    int grom(int what) {
        return what == 0 ? ga : what == 1 ? gb : what == 2 ? gl ? 1 : 0 : -1;
    }

    void frame() {
        f = true;
    }

    boolean interrupt(int level) {
        if (level < 2 || level > 15) {
            return false;
        }
        told[level] = true;
        return true;
    }

    boolean key(int column, int row, boolean down) {
        if (column < 0 || column > 7 || row < 0 || row > 7) {
            return false;
        }
        keys[column][row] = down;
        return true;
    }

    int out(int bit) {
        return bit < 0 || bit > 4095 ? -1 : out[bit] ? 1 : 0;
    }

    int in(int bit) {
        if (bit < 0 || bit > 4095) {
            return -1;
        }
        if (bit == 2) {
            return f ? 0 : 1;
        }
        if (bit >= 3 && bit <= 10) {
            return keys[out(18) + 2 * out(19) + 4 * out(20)][bit - 3] ? 0 : 1;
        }
        return out(bit);
    }

    int pixel(int px, int py) {
        if (px < 0 || px > 255 || py < 0 || py > 191) {
            return -1;
        }
        int seven = vr[7] % 16;
        if (vr[1] / 64 % 2 == 0) {
            return seven;
        }
        int name = vram[vr[2] % 16 * 1024 + 32 * (py / 8) + px / 8];
        int pattern = vram[vr[4] % 8 * 2048 + 8 * name + py % 8];
        int colours = vram[(vr[3] * 64 + name / 8) % 16384];
        int colour = (pattern >> 7 - px % 8) % 2 == 1 ? colours / 16 : colours % 16;
        return colour == 0 ? seven : colour;
    }

    private static int even(int value) {
        return value & 0xFFFF & ~1;
    }

    private int status() {
        return (l ? 32768 : 0) + (g ? 16384 : 0) + (e ? 8192 : 0) + (c ? 4096 : 0) + (v ? 2048 : 0)
            + (p ? 1024 : 0) + (x ? 512 : 0) + mask;
    }

    private void setStatus(int value) {
        l = (value >> 15 & 1) == 1;
        g = (value >> 14 & 1) == 1;
        e = (value >> 13 & 1) == 1;
        c = (value >> 12 & 1) == 1;
        v = (value >> 11 & 1) == 1;
        p = (value >> 10 & 1) == 1;
        x = (value >> 9 & 1) == 1;
        mask = value & 15;
    }

    /** Where the byte of an address is kept, or -1. */
    private static int cell(int address) {
        if (address < 0x4000 || address >= 0xA000) {
            return address;
        }
        return address >= 0x8000 && address < 0x8400 ? 0x8000 + address % 256 : -1;
    }

    private int read(int address) {
        int at = address & 0xFFFF;
        if (at % 2 == 0 && at >= 0x8800 && at <= 0x8BFF) {
            vl = null;
            if (at / 2 % 2 == 1) {
                int given = f ? 128 : 0;
                f = false;
                return given;
            }
            int given = vb;
            pictureAhead();
            return given;
        }
        if (at % 2 == 0 && at >= 0x9800 && at <= 0x9BFF) {
            gl = false;
            if (at / 2 % 2 == 1) {
                int given = ga / 256;
                ga = ga % 256 * 257;
                return given;
            }
            int given = gb;
            gromAhead();
            return given;
        }
        return cell(at) < 0 ? 0 : mem[cell(at)];
    }

    private void pictureAhead() {
        vb = vram[va];
        va = (va + 1) % 16384;
    }

    private void gromAhead() {
        gb = ga / 8192 == 0 ? groms[ga] : 0;
        ga = ga / 8192 * 8192 + (ga + 1) % 8192;
    }

    private void write(int address, int value) {
        int at = address & 0xFFFF;
        int b = value & 255;
        if (at % 2 == 0 && at >= 0x8C00 && at <= 0x8FFF) {
            if (at / 2 % 2 == 0) {
                vram[va] = b;
                vb = b;
                va = (va + 1) % 16384;
                vl = null;
            } else if (vl == null) {
                vl = b;
            } else {
                int first = vl;
                vl = null;
                if (b / 64 == 2) {
                    vr[b % 8] = first;
                } else {
                    va = b % 64 * 256 + first;
                    if (b / 64 == 0) {
                        pictureAhead();
                    }
                }
            }
        } else if (at % 2 == 0 && at >= 0x9C00 && at <= 0x9FFF) {
            if (at / 2 % 2 == 1 && !gl) {
                gl = true;
                ga = b * 256 + ga % 256;
            } else if (at / 2 % 2 == 1) {
                gl = false;
                ga = ga / 256 * 256 + b;
                gromAhead();
            }
        } else if (cell(at) >= 0x2000) {
            mem[cell(at)] = b;
        }
    }

    private int word(int address) {
        int at = address & 0xFFFE;
        int high = read(at);
        return high * 256 + read(at + 1);
    }

    private void putWord(int address, int value) {
        int at = address & 0xFFFE;
        write(at, value >> 8);
        write(at + 1, value);
    }

    private int register(int n) {
        return word(wp + 2 * n);
    }

    private void putRegister(int n, int value) {
        putWord(wp + 2 * n, value);
    }

    private int next() {
        int word = word(pc);
        pc = even(pc + 2);
        return word;
    }

    private int level() {
        if (f && (vr[1] & 32) != 0 && out[2]) {
            return 1;
        }
        for (int level = 2; level < 16; level++) {
            if (told[level]) {
                return level;
            }
        }
        return 99;
    }

    private void comes(int level) {
        if (level == 1) {
            pictureInterrupts++;
        } else {
            toldInterrupts++;
        }
        enter(4 * level);
        mask = level - 1;
        told[level] = false;
        interrupts++;
        mode = "runs";
    }

    private void enter(int address) {
        int w = word(address);
        int q = word(address + 2);
        int had = wp;
        wp = even(w);
        putRegister(13, had);
        putRegister(14, pc);
        putRegister(15, status());
        pc = even(q);
        instructionFirst = true;
    }

    private void one() {
        int start = pc;
        int word = next();
        if ("X".equals(NAMES[word])) {
            word = word(operand(word, 2));
            if ("X".equals(NAMES[word])) {
                word = 0;
            }
        }
        String name = NAMES[word];
        if (name == null) {
            halts++;
            pc = start;
            mode = "halts";
            return;
        }
        instructionFirst = false;
        done++;
        DONE.merge(name, 1, Integer::sum);
        if (word >= 0x4000) {
            twoOperands(name, word);
        } else if (word >= 0x2000) {
            withRegister(name, word);
        } else if (word >= 0x1D00) {
            singleBit(name, (byte) word);
        } else if (word >= 0x1000) {
            pc = jumps(name) ? even(pc + 2 * (byte) word) : pc;
        } else if (word >= 0x0800) {
            shift(name, word);
        } else if (word >= 0x0400) {
            oneOperand(name, word);
        } else {
            plain(name, word & 15);
        }
    }

    private int operand(int bits, int more) {
        int t = bits / 16 % 4;
        int n = bits % 16;
        if (t == 0) {
            return wp + 2 * n & 0xFFFF;
        }
        if (t == 2) {
            int given = next();
            return n == 0 ? given : given + register(n) & 0xFFFF;
        }
        int address = register(n);
        if (t == 3) {
            putRegister(n, address + more);
        }
        return address;
    }

    private static int signed(int a, int bits) {
        return a >= 1 << bits - 1 ? a - (1 << bits) : a;
    }

    private void cmp(int a, int b, int bits) {
        l = a > b;
        g = signed(a, bits) > signed(b, bits);
        e = a == b;
    }

    private void par(int a) {
        p = false;
        for (int i = 0; i < 8; i++) {
            p ^= (a >> i & 1) == 1;
        }
    }

    private int sum(int goal, int source, int bits) {
        int w = goal + source & (1 << bits) - 1;
        cmp(w, 0, bits);
        c = goal + source >= 1 << bits;
        boolean goalMinus = signed(goal, bits) < 0;
        v = goalMinus == signed(source, bits) < 0 && goalMinus != signed(w, bits) < 0;
        return w;
    }

    private int difference(int goal, int source, int bits) {
        int w = goal - source & (1 << bits) - 1;
        cmp(w, 0, bits);
        c = !(source > goal);
        boolean goalMinus = signed(goal, bits) < 0;
        v = goalMinus != signed(source, bits) < 0 && goalMinus != signed(w, bits) < 0;
        return w;
    }

    private void twoOperands(String name, int word) {
        boolean bytes = name.length() > 1 && name.endsWith("B");
        int bits = bytes ? 8 : 16;
        int from = operand(word, bytes ? 1 : 2);
        int source = bytes ? read(from) : word(from);
        int to = operand(word >> 6, bytes ? 1 : 2);
        int goal = bytes ? read(to) : word(to);
        int w;
        switch (bytes ? name.substring(0, name.length() - 1) : name) {
            case "C":
                cmp(source, goal, bits);
                if (bytes) {
                    par(source);
                }
                return;
            case "A": w = sum(goal, source, bits); break;
            case "S": w = difference(goal, source, bits); break;
            case "SZC": w = goal & ~source; break;
            case "SOC": w = goal | source; break;
            default: w = source; break;
        }
        cmp(w, 0, bits);
        if (bytes) {
            par(w);
            write(to, w);
        } else {
            putWord(to, w);
        }
    }

    private void withRegister(String name, int word) {
        int n = word >> 6 & 15;
        int count = n == 0 ? 16 : n;
        boolean manyBits = name.equals("LDCR") || name.equals("STCR");
        boolean bytes = manyBits && count <= 8;
        int from = operand(word, bytes ? 1 : 2);
        if (name.equals("XOP")) {
            enter(64 + 4 * n);
            putRegister(11, from);
            x = true;
            return;
        }
        int source = bytes ? read(from) : word(from);
        int goal = register(manyBits ? 12 : n);
        switch (name) {
            case "COC": e = (source & goal) == source; break;
            case "CZC": e = (source & goal) == 0; break;
            case "XOR":
                cmp(source ^ goal, 0, 16);
                putRegister(n, source ^ goal);
                break;
            case "MPY":
                long product = (long) source * goal;
                putRegister(n, (int) (product / 65536));
                putRegister(n + 1, (int) (product % 65536));
                break;
            case "DIV":
                v = source <= goal;
                if (!v) {
                    long all = goal * 65536L + register(n + 1);
                    putRegister(n, (int) (all / source));
                    putRegister(n + 1, (int) (all % source));
                }
                break;
            default:
                manyBits(name.equals("STCR"), goal / 2, count, from, source);
                break;
        }
    }

    private void manyBits(boolean come, int base, int count, int address, int operand) {
        int value = come ? 0 : operand;
        for (int i = 0; i < count; i++) {
            int bit = (base + i) % 4096;
            if (come) {
                value += in(bit) << i;
            } else {
                out[bit] = (value >> i) % 2 == 1;
            }
        }
        cmp(value, 0, count <= 8 ? 8 : 16);
        if (count <= 8) {
            par(value);
        }
        if (come && count <= 8) {
            write(address, value);
        } else if (come) {
            putWord(address, value);
        }
    }

    private void singleBit(String name, int d) {
        int bit = Math.floorMod(register(12) / 2 + d, 4096);
        if (name.equals("TB")) {
            e = in(bit) == 1;
        } else {
            out[bit] = name.equals("SBO");
        }
    }

    private boolean jumps(String name) {
        switch (name) {
            case "JMP": return true;
            case "JLT": return !(g || e);
            case "JLE": return !l || e;
            case "JEQ": return e;
            case "JHE": return l || e;
            case "JGT": return g;
            case "JNE": return !e;
            case "JNC": return !c;
            case "JOC": return c;
            case "JNO": return !v;
            case "JL": return !(l || e);
            case "JH": return l && !e;
            default: return p;
        }
    }

    private void shift(String name, int word) {
        int w = register(word & 15);
        int by = word >> 4 & 15;
        by = by == 0 ? register(0) % 16 : by;
        by = by == 0 ? 16 : by;
        boolean turned = false;
        for (int i = 0; i < by; i++) {
            int had = w;
            switch (name) {
                case "SLA": c = had >= 32768; w = had * 2 % 65536; break;
                case "SRL": c = had % 2 == 1; w = had / 2; break;
                case "SRA": c = had % 2 == 1; w = had / 2 + (had >= 32768 ? 32768 : 0); break;
                default: c = had % 2 == 1; w = had / 2 + had % 2 * 32768; break;
            }
            turned |= had >= 32768 != w >= 32768;
        }
        if (name.equals("SLA")) {
            v = turned;
        }
        cmp(w, 0, 16);
        putRegister(word & 15, w);
    }

    private void oneOperand(String name, int word) {
        int address = operand(word, 2);
        switch (name) {
            case "BLWP": enter(address); return;
            case "B": pc = even(address); return;
            case "BL": putRegister(11, pc); pc = even(address); return;
            default: break;
        }
        int had = word(address);
        int w;
        switch (name) {
            case "CLR": w = 0; break;
            case "SETO": w = 65535; break;
            case "SWPB": w = had % 256 * 256 + had / 256; break;
            case "INV": w = 65535 - had; cmp(w, 0, 16); break;
            case "NEG": w = difference(0, had, 16); break;
            case "INC": w = sum(had, 1, 16); break;
            case "INCT": w = sum(had, 2, 16); break;
            case "DEC": w = sum(had, 65535, 16); break;
            case "DECT": w = sum(had, 65534, 16); break;
            default:
                cmp(had, 0, 16);
                c = false;
                v = had == 32768;
                w = Math.abs(signed(had, 16));
                break;
        }
        putWord(address, w);
    }

    private void plain(String name, int n) {
        switch (name) {
            case "STWP": putRegister(n, wp); break;
            case "STST": putRegister(n, status()); break;
            case "LWPI": wp = even(next()); break;
            case "LIMI": mask = next() % 16; break;
            case "IDLE": mode = "sleeps"; break;
            case "RSET": mask = 0; break;
            case "RTWP":
                int oldStatus = register(15);
                int oldPc = register(14);
                wp = even(register(13));
                pc = even(oldPc);
                setStatus(oldStatus);
                break;
            case "LI": case "AI": case "ANDI": case "ORI": case "CI": immediate(name, n); break;
            default: break;
        }
    }

    private void immediate(String name, int n) {
        int had = name.equals("LI") ? 0 : register(n);
        int given = next();
        int w;
        switch (name) {
            case "CI": cmp(had, given, 16); return;
            case "AI": w = sum(had, given, 16); break;
            case "ANDI": w = had & given; break;
            case "ORI": w = had | given; break;
            default: w = given; break;
        }
        cmp(w, 0, 16);
        putRegister(n, w);
    }
}
