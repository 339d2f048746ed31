/** The boundary cases of what the instructions reckon, sentence by sentence: the last that fits, and the first that doesn't. */
public final class ReckoningEdgesTest {
    private static final long LEAST = Long.MIN_VALUE;
    private static final long MOST = Long.MAX_VALUE;
    private static final int V = 64;
    private static final int D = 128;

    public static void main(String[] args) {
        products();
        sums();
        differences();
        negations();
        shiftsLeft();
        stores();
        upperBits();
        divisions();
        divisionsByZero();
        wideDivisions();
        times();
        comparisons();
        shiftsByAll();
        logic();
        belowZero();
        mux();
        bits();
        matrices();
        Kit.end();
    }

    /** x and rA of an instruction with y in $0 and z in $1. */
    private static LittleMix reckoned(String name, long y, long z, long x, int event) {
        LittleMix mix = Kit.loaded(new long[] {y, z, 77}, " " + name + " $2,$0,$1");
        Kit.due("run", mix.run(1), 1);
        Kit.due(name + " of " + y + " and " + z, mix.register(2), x);
        Kit.due(name + " of " + y + " and " + z + ": rA", mix.special(21), event);
        Kit.due(name + " of " + y + " and " + z + ": place", mix.place(), 276);
        return mix;
    }

    /** With a register and with a number 0 .. 255. */
    private static void both(String name, long y, int z, long x, int event) {
        reckoned(name, y, z, x, event);
        LittleMix mix = Kit.loaded(new long[] {y}, " " + name + " $2,$0," + z);
        Kit.due("run", mix.run(1), 1);
        Kit.due(name + " of " + y + " and a number " + z, mix.register(2), x);
        Kit.due(name + " of " + y + " and a number " + z + ": rA", mix.special(21), event);
    }

    private static void products() {
        Kit.says("MUL: event V if what is right, with signs, doesn't fit (x is what fits into 64 bits)");
        both("MUL", MOST, 1, MOST, 0);
        both("MUL", 1L << 62, 1, 1L << 62, 0);
        both("MUL", 1L << 62, 2, LEAST, V);
        both("MUL", (1L << 62) - 1, 2, MOST - 1, 0);
        both("MUL", -(1L << 62), 2, LEAST, 0);
        both("MUL", -(1L << 62) - 1, 2, MOST - 1, V);
        both("MUL", LEAST, 0, 0, 0);
        both("MUL", LEAST, 1, LEAST, 0);
        both("MUL", LEAST, 2, 0, V);
        reckoned("MUL", LEAST, -1, LEAST, V);
        reckoned("MUL", -1, LEAST, LEAST, V);
        reckoned("MUL", LEAST + 1, -1, MOST, 0);
        reckoned("MUL", MOST, -1, LEAST + 1, 0);
        reckoned("MUL", LEAST, LEAST, 0, V);
        reckoned("MUL", MOST, MOST, 1, V);
        reckoned("MUL", 1L << 32, 1L << 31, LEAST, V);
        reckoned("MUL", -(1L << 32), 1L << 31, LEAST, 0);
        reckoned("MUL", 3037000499L, 3037000499L, 3037000499L * 3037000499L, 0);
        reckoned("MUL", 3037000500L, 3037000500L, 3037000500L * 3037000500L, V);
        reckoned("MUL", -3037000500L, 3037000500L, -3037000500L * 3037000500L, V);
        Kit.says("MULU has no event");
        reckoned("MULU", LEAST, 2, 0, 0);
        reckoned("MULU", -1, -1, 1, 0);
    }

    private static void sums() {
        Kit.says("ADD: event V if what is right, with signs, doesn't fit");
        both("ADD", MOST - 1, 1, MOST, 0);
        both("ADD", MOST, 1, LEAST, V);
        both("ADD", MOST, 0, MOST, 0);
        both("ADD", -1, 1, 0, 0);
        both("ADD", MOST - 254, 255, LEAST, V);
        both("ADD", MOST - 255, 255, MOST, 0);
        reckoned("ADD", LEAST + 1, -1, LEAST, 0);
        reckoned("ADD", LEAST, -1, MOST, V);
        reckoned("ADD", LEAST, LEAST, 0, V);
        reckoned("ADD", LEAST, MOST, -1, 0);
        reckoned("ADD", MOST, MOST, -2, V);
        reckoned("ADD", 0x5555555555555555L, 0x5555555555555555L, 0xaaaaaaaaaaaaaaaaL, V);
        reckoned("ADDU", MOST, 1, LEAST, 0);
        reckoned("ADDU", -1, 1, 0, 0);
        reckoned("ADDU", LEAST, LEAST, 0, 0);
    }

    private static void differences() {
        Kit.says("SUB: event V if what is right, with signs, doesn't fit");
        both("SUB", LEAST + 1, 1, LEAST, 0);
        both("SUB", LEAST, 1, MOST, V);
        both("SUB", LEAST, 0, LEAST, 0);
        reckoned("SUB", MOST - 1, -1, MOST, 0);
        reckoned("SUB", MOST, -1, LEAST, V);
        reckoned("SUB", -1, LEAST, MOST, 0);
        reckoned("SUB", 0, LEAST, LEAST, V);
        reckoned("SUB", LEAST, LEAST, 0, 0);
        reckoned("SUB", MOST, MOST, 0, 0);
        reckoned("SUB", LEAST, MOST, 1, V);
        reckoned("SUB", 0xaaaaaaaaaaaaaaaaL, 0x5555555555555555L, 0x5555555555555555L, V);
        reckoned("SUBU", LEAST, 1, MOST, 0);
        reckoned("SUBU", 0, 1, -1, 0);
    }

    private static void negation(int y, long z, long x, int event) {
        LittleMix mix = Kit.loaded(new long[] {z}, " NEGU $2," + y + ",$0", " NEG $1," + y + ",$0");
        mix.run(1);
        Kit.due("NEGU of " + y + " and " + z, mix.register(2), x);
        Kit.due("NEGU has no event", mix.special(21), 0);
        mix.run(1);
        Kit.due("NEG of " + y + " and " + z, mix.register(1), x);
        Kit.due("NEG of " + y + " and " + z + ": rA", mix.special(21), event);
    }

    private static void negations() {
        Kit.says("NEG: event V if what is right, with signs, doesn't fit");
        negation(0, LEAST, LEAST, V);
        negation(0, LEAST + 1, MOST, 0);
        negation(0, MOST, LEAST + 1, 0);
        negation(1, LEAST + 1, LEAST, V);
        negation(1, LEAST + 2, MOST, 0);
        negation(255, LEAST + 255, LEAST, V);
        negation(255, LEAST + 256, MOST, 0);
        negation(255, LEAST, LEAST + 255, V);
        negation(255, MOST, LEAST + 256, 0);
        negation(0, 0, 0, 0);
        LittleMix numbers = Kit.with(" NEG $0,0,255", " NEGU $1,0,255", " NEG $2,255,0", " NEGU $3,255,0", " NEGU $4,7", " NEG $5,255,255");
        long[] want = {-255, -255, 255, 255, -7, 0};
        numbers.run(want.length);
        for (int k = 0; k < want.length; k++) {
            Kit.due("numbers alone, $" + k, numbers.register(k), want[k]);
        }
        Kit.due("they always fit", numbers.special(21), 0);
    }

    private static void shiftsLeft() {
        Kit.says("SL: event V if what is right, with signs, doesn't fit");
        both("SL", 1, 62, 1L << 62, 0);
        both("SL", 1, 63, LEAST, V);
        both("SL", -1, 63, LEAST, 0);
        both("SL", -1, 64, 0, V);
        both("SL", 1, 64, 0, V);
        both("SL", 0, 63, 0, 0);
        both("SL", 0, 64, 0, 0);
        both("SL", 0, 255, 0, 0);
        both("SL", MOST, 0, MOST, 0);
        both("SL", MOST, 1, -2, V);
        both("SL", MOST >> 1, 1, MOST - 1, 0);
        both("SL", LEAST, 0, LEAST, 0);
        both("SL", LEAST, 1, 0, V);
        both("SL", LEAST >> 1, 1, LEAST, 0);
        both("SL", (LEAST >> 1) - 1, 1, MOST - 1, V);
        reckoned("SL", 5, -1, 0, V);
        reckoned("SL", 5, LEAST, 0, V);
        reckoned("SL", 5, 1L << 32, 0, V);
        reckoned("SL", 0, -1, 0, 0);
        both("SLU", 1, 63, LEAST, 0);
        both("SLU", -1, 64, 0, 0);
    }

    private static void stored(String name, long x, int event, int size) {
        LittleMix mix = Kit.loaded(new long[] {x, 3000}, " " + name + " $0,$1,0", " " + name + "U $0,$1,8");
        mix.run(1);
        Kit.due(name + " of " + x + ": rA", mix.special(21), event);
        Kit.due(name + " of " + x, Kit.bytes(mix, 3000, size), x & -1L >>> 64 - 8 * size);
        mix.run(1);
        Kit.due(name + "U has no event", mix.special(21), event);
        Kit.due(name + "U of " + x, Kit.bytes(mix, 3008, size), x & -1L >>> 64 - 8 * size);
    }

    private static void stores() {
        Kit.says("STB, STW, STT: event V if what is right, with signs, doesn't fit (what is stored the lowest bits)");
        String[] names = {"STB", "STW", "STT"};
        for (int i = 0; i < 3; i++) {
            int size = 1 << i;
            long top = 1L << 8 * size - 1;
            for (long fits : new long[] {0, 1, -1, top - 1, -top}) {
                stored(names[i], fits, 0, size);
            }
            for (long not : new long[] {top, -top - 1, 2 * top, 2 * top - 1, -2 * top, LEAST, MOST, 1L << 40}) {
                stored(names[i], not, V, size);
            }
        }
        for (long x : new long[] {LEAST, MOST, -1, 0}) {
            LittleMix mix = Kit.loaded(new long[] {x, 3000}, " STO $0,$1,0");
            mix.run(1);
            Kit.due("STO of " + x, Kit.bytes(mix, 3000, 8), x);
            Kit.due("STO has no event", mix.special(21), 0);
        }
    }

    private static void upperBits() {
        Kit.says("MULU: rH becomes the upper 64 bits");
        long[][] cases = {{0, -1, 0}, {1, -1, 0}, {2, -1, 1}, {2, MOST, 0}, {2, LEAST, 1}, {-1, -1, -2}, {LEAST, LEAST, 1L << 62}, {1L << 32, 1L << 32, 1}, {1L << 32, (1L << 32) - 1, 0}, {0xffffffffL, 0xffffffffL, 0}};
        for (long[] one : cases) {
            LittleMix mix = reckoned("MULU", one[0], one[1], one[0] * one[1], 0);
            Kit.due("rH", mix.special(3), one[2]);
            Kit.due("rH, the other way round", reckoned("MULU", one[1], one[0], one[0] * one[1], 0).special(3), one[2]);
        }
        LittleMix stays = Kit.loaded(new long[] {LEAST}, " PUT rH,5", " MUL $1,$0,2");
        stays.run(2);
        Kit.due("rH stays with MUL", stays.special(3), 5);
    }

    private static void division(long y, long z, long x, long rest, int event) {
        LittleMix mix = reckoned("DIV", y, z, x, event);
        Kit.due("DIV of " + y + " and " + z + ": rR", mix.special(6), rest);
    }

    private static void divisions() {
        Kit.says("DIV: x is y / z downwards, rR the rest (of z's sign); event V if it doesn't fit (x is y, rR 0)");
        division(6, 3, 2, 0, 0);
        division(7, 3, 2, 1, 0);
        division(8, 3, 2, 2, 0);
        division(-6, 3, -2, 0, 0);
        division(-7, 3, -3, 2, 0);
        division(-1, 3, -1, 2, 0);
        division(7, -3, -3, -2, 0);
        division(1, -3, -1, -2, 0);
        division(6, -3, -2, 0, 0);
        division(-7, -3, 2, -1, 0);
        division(0, 5, 0, 0, 0);
        division(0, -5, 0, 0, 0);
        division(LEAST, -1, LEAST, 0, V);
        division(LEAST + 1, -1, MOST, 0, 0);
        division(LEAST, 1, LEAST, 0, 0);
        division(MOST, -1, -MOST, 0, 0);
        division(LEAST, 2, LEAST >> 1, 0, 0);
        division(LEAST, -2, 1L << 62, 0, 0);
        division(LEAST, LEAST, 1, 0, 0);
        division(LEAST, MOST, -2, MOST - 1, 0);
        division(MOST, LEAST, -1, -1, 0);
        division(1, LEAST, -1, LEAST + 1, 0);
    }

    private static void divisionsByZero() {
        Kit.says("by 0: event D, x 0, rR y");
        for (long y : new long[] {0, 1, -1, LEAST, MOST}) {
            division(y, 0, 0, y, D);
        }
        division(5, 1, 5, 0, 0);
        division(5, -1, -5, 0, 0);
        LittleMix number = Kit.loaded(new long[] {9}, " DIV $1,$0,0", " DIV $1,$0,1");
        number.run(1);
        Kit.due("by a number 0", number.special(21), D);
        Kit.due("rR", number.special(6), 9);
        number.run(1);
        Kit.due("by a number 1", number.register(1), 9);
        Kit.due("rA stays", number.special(21), D);
    }

    private static void wideDivision(long rD, long y, long z, long x, long rest) {
        LittleMix mix = Kit.loaded(new long[] {y, z, rD}, " PUT rD,$2", " DIVU $3,$0,$1");
        Kit.due("run", mix.run(2), 2);
        Kit.due("DIVU of " + rD + ", " + y + " by " + z, mix.register(3), x);
        Kit.due("DIVU of " + rD + ", " + y + " by " + z + ": rR", mix.special(6), rest);
        Kit.due("no event", mix.special(21), 0);
        Kit.due("rD stays", mix.special(1), rD);
    }

    private static void wideDivisions() {
        Kit.says("DIVU: of rD times 2 to the 64 and y by z, if z is above rD (without signs), rest to rR; else x is rD, rR y");
        wideDivision(0, 7, 0, 0, 7);
        wideDivision(0, 7, 1, 7, 0);
        wideDivision(0, 7, 2, 3, 1);
        wideDivision(4, 7, 4, 4, 7);
        wideDivision(4, 7, 3, 4, 7);
        wideDivision(4, 2, 5, 0xccccccccccccccccL + 1, 1);
        wideDivision(1, 0, 2, LEAST, 0);
        wideDivision(MOST, 0, LEAST, -2, 0);
        wideDivision(LEAST, 5, LEAST, LEAST, 5);
        wideDivision(LEAST, 5, MOST, LEAST, 5);
        wideDivision(-1, 5, -1, -1, 5);
        wideDivision(-2, -1, -1, -1, -2);
        wideDivision(-2, 0, -1, -2, -2);
        wideDivision(-1, 5, 5, -1, 5);
        wideDivision(0, -1, LEAST, 1, MOST);
        wideDivision(0, MOST, LEAST, 0, MOST);
        wideDivision(0, -1, -1, 1, 0);
    }

    private static void times() {
        Kit.says("2ADDU: 2 y and z, and so on");
        for (int k = 1; k <= 4; k++) {
            String name = (1 << k) + "ADDU";
            both(name, 0, 255, 255, 0);
            both(name, 1, 1, (1 << k) + 1, 0);
            reckoned(name, -1, -1, -(1 << k) - 1, 0);
            reckoned(name, 1L << 64 - k, 3, 3, 0);
            reckoned(name, 1L << 63 - k, 0, LEAST, 0);
            reckoned(name, 1L << 63 - k, LEAST, 0, 0);
        }
    }

    private static void comparisons() {
        Kit.says("CMP: - 1, 0, 1");
        both("CMP", -1, 0, -1, 0);
        both("CMP", 0, 0, 0, 0);
        both("CMP", 1, 0, 1, 0);
        both("CMP", 254, 255, -1, 0);
        both("CMP", 255, 255, 0, 0);
        both("CMP", 256, 255, 1, 0);
        reckoned("CMP", LEAST, MOST, -1, 0);
        reckoned("CMP", MOST, LEAST, 1, 0);
        reckoned("CMP", LEAST, LEAST, 0, 0);
        both("CMPU", -1, 0, 1, 0);
        both("CMPU", 0, 0, 0, 0);
        both("CMPU", 254, 255, -1, 0);
        reckoned("CMPU", 0, -1, -1, 0);
        reckoned("CMPU", MOST, LEAST, -1, 0);
        reckoned("CMPU", LEAST, MOST, 1, 0);
        reckoned("CMPU", -1, -1, 0, 0);
        reckoned("CMPU", -2, -1, -1, 0);
    }

    private static void shiftsByAll() {
        Kit.says("Shifts by 64 and more (z without a sign): all goes");
        for (int z : new int[] {64, 65, 128, 255}) {
            both("SLU", -1, z, 0, 0);
            both("SRU", -1, z, 0, 0);
            both("SR", MOST, z, 0, 0);
            both("SR", LEAST, z, -1, 0);
        }
        for (long z : new long[] {64, -1, -64, LEAST, MOST, 1L << 32, (1L << 32) + 1}) {
            reckoned("SLU", -1, z, 0, 0);
            reckoned("SRU", -1, z, 0, 0);
            reckoned("SR", MOST, z, 0, 0);
            reckoned("SR", -5, z, -1, 0);
            reckoned("SL", 5, z, 0, V);
        }
        both("SLU", -1, 63, LEAST, 0);
        both("SRU", -1, 63, 1, 0);
        both("SR", LEAST, 63, -1, 0);
        both("SR", LEAST, 62, -2, 0);
        both("SR", MOST, 62, 1, 0);
        both("SR", MOST, 63, 0, 0);
        both("SLU", 5, 0, 5, 0);
        both("SRU", -5, 0, -5, 0);
        both("SR", -5, 0, -5, 0);
    }

    private static void logic() {
        Kit.says("ORN: y or not z; ANDN: y and not z; NAND, NOR, NXOR: not of AND, OR, XOR");
        long y = 0xff00ff00f0f0aaaaL;
        for (long z : new long[] {0, -1, LEAST, MOST, 0x0ff00ff0cccc3333L}) {
            reckoned("OR", y, z, y | z, 0);
            reckoned("ORN", y, z, y | ~z, 0);
            reckoned("NOR", y, z, ~(y | z), 0);
            reckoned("XOR", y, z, y ^ z, 0);
            reckoned("AND", y, z, y & z, 0);
            reckoned("ANDN", y, z, y & ~z, 0);
            reckoned("NAND", y, z, ~(y & z), 0);
            reckoned("NXOR", y, z, ~(y ^ z), 0);
        }
        both("ORN", 0, 255, ~255, 0);
        both("NAND", -1, 255, ~255, 0);
        both("NXOR", 0, 0, -1, 0);
    }

    private static void belowZero() {
        Kit.says("BDIF: byte by byte y less z, 0 if that is below 0; WDIF, TDIF, ODIF of 2, 4, 8 bytes");
        reckoned("BDIF", 0x0001ff80ff7f0180L, 0x0100ff7f0080027fL, 0x00010001ff000001L, 0);
        reckoned("WDIF", 0x0001_ffff_8000_7fffL, 0x0002_0000_7fff_8000L, 0x0000_ffff_0001_0000L, 0);
        reckoned("WDIF", 0x0100_0100_00ff_1234L, 0x00ff_0101_0100_1234L, 0x0001_0000_0000_0000L, 0);
        reckoned("TDIF", 0x00000001_ffffffffL, 0x00000002_00000000L, 0x00000000_ffffffffL, 0);
        reckoned("TDIF", 0x80000000_7fffffffL, 0x7fffffff_80000000L, 0x00000001_00000000L, 0);
        reckoned("ODIF", 5, 4, 1, 0);
        reckoned("ODIF", 5, 5, 0, 0);
        reckoned("ODIF", 5, 6, 0, 0);
        reckoned("ODIF", -1, 0, -1, 0);
        reckoned("ODIF", 0, -1, 0, 0);
        reckoned("ODIF", LEAST, MOST, 1, 0);
        reckoned("ODIF", MOST, LEAST, 0, 0);
        reckoned("ODIF", -1, MOST, LEAST, 0);
        both("BDIF", -1, 255, 0xffffffffffffff00L, 0);
    }

    private static void mux() {
        Kit.says("MUX: y where rM is 1, else z");
        for (long rM : new long[] {0, -1, 1, LEAST, MOST, 0xff00ff00ff00ff00L}) {
            LittleMix mix = Kit.loaded(new long[] {0x123456789abcdef0L, 0xfedcba9876543210L, rM}, " PUT rM,$2", " MUX $3,$0,$1");
            mix.run(2);
            Kit.due("rM " + rM, mix.register(3), 0x123456789abcdef0L & rM | 0xfedcba9876543210L & ~rM);
        }
    }

    private static void bits() {
        Kit.says("SADD: how many bits are in y that aren't in z");
        both("SADD", 0, 0, 0, 0);
        both("SADD", -1, 0, 64, 0);
        both("SADD", -1, 255, 56, 0);
        reckoned("SADD", -1, -1, 0, 0);
        reckoned("SADD", 0, -1, 0, 0);
        reckoned("SADD", LEAST, 0, 1, 0);
        reckoned("SADD", LEAST, MOST, 1, 0);
        reckoned("SADD", MOST, LEAST, 63, 0);
    }

    private static void matrices() {
        Kit.says("MOR: byte i (0 the lowest) of x is the OR of those bytes k of y for which bit k of byte i of z is 1; MXOR: the XOR");
        long y = 0x0102040810204080L;
        for (String name : new String[] {"MOR", "MXOR"}) {
            both(name, y, 0, 0, 0);
            both(name, y, 1, 0x80, 0);
            both(name, y, 128, 1, 0);
            both(name, y, 255, 255, 0);
            reckoned(name, y, LEAST, 0x0100000000000000L, 0);
            reckoned(name, y, 1L << 56, 0x8000000000000000L, 0);
            reckoned(name, 0x0807060504030201L, 0x8040201008040201L, 0x0807060504030201L, 0);
            reckoned(name, 0x0807060504030201L, 0x0102040810204080L, 0x0102030405060708L, 0);
        }
        both("MOR", -1, 3, 255, 0);
        both("MXOR", -1, 3, 0, 0);
        both("MXOR", -1, 7, 255, 0);
        both("MOR", 0x0305, 3, 7, 0);
        both("MXOR", 0x0305, 3, 6, 0);
        reckoned("MOR", -1, -1, -1, 0);
        reckoned("MXOR", -1, -1, 0, 0);
    }
}
