import java.math.BigInteger;

/** Promise 9: what the instructions reckon, held against whole numbers of any size. */
public final class ArithmeticTest {
    private static final long[] NUMBERS = {0, 1, 2, 3, 7, 63, 64, 65, 255, 256, -1, -2, -3, -64, Long.MAX_VALUE, Long.MIN_VALUE, Long.MIN_VALUE + 1,
        0x0123456789abcdefL, 0xfedcba9876543210L, 0x8040201008040201L, 0x00ff00ff80017fffL, 3037000500L, 1L << 32, 0x80000000L};
    private static final String[] NAMES = ("MUL MULU DIV DIVU ADD ADDU SUB SUBU 2ADDU 4ADDU 8ADDU 16ADDU CMP CMPU SL SLU SR SRU "
            + "OR ORN NOR XOR AND ANDN NAND NXOR BDIF WDIF TDIF ODIF MUX SADD MOR MXOR "
            + "CSN CSZ CSP CSOD CSNN CSNZ CSNP CSEV ZSN ZSZ ZSP ZSOD ZSNN ZSNZ ZSNP ZSEV").split(" ");
    private static final long OLD = 77;
    private static final BigInteger WHOLE = BigInteger.ONE.shiftLeft(64);

    private static long x;
    private static long rA;
    private static long rH;
    private static long rR;

    /** What an instruction leaves; rH and rR are null if they stay. */
    record Answer(boolean writes, long x, int event, Long rH, Long rR) {
    }

    /** The mask is rD for DIVU, rM for MUX; for NEG y is the number. */
    static Answer answer(String name, long y, long z, long mask) {
        rA = 0;
        if (name.startsWith("NEG")) {
            reckon("SUB", y, z, mask);
            rA = name.equals("NEG") ? rA : 0;
        } else {
            reckon(name, y, z, mask);
        }
        boolean stays = name.startsWith("CS") && !isSo(name.substring(2), y);
        return new Answer(!stays, x, (int) rA, name.equals("MULU") ? rH : null, name.startsWith("DIV") ? rR : null);
    }

    public static void main(String[] args) {
        for (String name : NAMES) {
            for (int i = 0; i < NUMBERS.length; i++) {
                registers(name, NUMBERS[i], NUMBERS[(7 * i + name.length()) % NUMBERS.length]);
            }
            numbers(name);
        }
        negations();
        wide();
        wideDivisions();
        Kit.end();
    }

    private static void registers(String name, long y, long mask) {
        LittleMix mix = Kit.with(" SETL $10,2048", " LDO $1,$10,0", " LDO $2,$10,8", " LDO $4,$10,16", " PUT rD,$4", " PUT rM,$4", " PUT rR,33", " PUT rH,44", " SETL $3,77",
                " " + name + " $3,$1,$2");
        for (long z : NUMBERS) {
            Kit.store(mix, 2048, y);
            Kit.store(mix, 2056, z);
            Kit.store(mix, 2064, mask);
            mix.back();
            Kit.due("run", mix.run(10), 10);
            check(mix, name, y, z, mask);
        }
    }

    private static void numbers(String name) {
        for (int z : new int[] {0, 1, 63, 64, 255}) {
            LittleMix mix = Kit.with(" SETL $10,2048", " LDO $1,$10,0", " SETL $3,77", " PUT rR,33", " PUT rH,44", " " + name + " $3,$1," + z);
            for (long y : NUMBERS) {
                Kit.store(mix, 2048, y);
                mix.back();
                Kit.due("run", mix.run(6), 6);
                check(mix, name, y, z, 0);
            }
        }
    }

    private static void check(LittleMix mix, String name, long y, long z, long mask) {
        String what = name + " of " + y + " and " + z + " (rD, rM " + mask + ")";
        rA = 0;
        rH = 44;
        rR = 33;
        reckon(name, y, z, mask);
        Kit.due(what, mix.register(3), x);
        Kit.due(what + ": rA", mix.special(21), rA);
        Kit.due(what + ": rH", mix.special(3), rH);
        Kit.due(what + ": rR", mix.special(6), rR);
    }

    private static BigInteger signed(long a) {
        return BigInteger.valueOf(a);
    }

    private static BigInteger unsigned(long a) {
        return BigInteger.valueOf(a).mod(WHOLE);
    }

    private static void fitted(BigInteger right) {
        x = right.longValue();
        rA = right.bitLength() > 63 ? 64 : 0;
    }

    private static void reckon(String name, long y, long z, long mask) {
        boolean all = unsigned(z).compareTo(BigInteger.valueOf(64)) >= 0;
        int shift = all ? 64 : (int) z;
        switch (name) {
            case "MUL" -> fitted(signed(y).multiply(signed(z)));
            case "MULU" -> {
                x = y * z;
                rH = unsigned(y).multiply(unsigned(z)).shiftRight(64).longValue();
            }
            case "DIV" -> divide(y, z);
            case "DIVU" -> divideWide(y, z, mask);
            case "ADD" -> fitted(signed(y).add(signed(z)));
            case "ADDU" -> x = unsigned(y).add(unsigned(z)).longValue();
            case "SUB" -> fitted(signed(y).subtract(signed(z)));
            case "SUBU" -> x = unsigned(y).subtract(unsigned(z)).longValue();
            case "2ADDU", "4ADDU", "8ADDU", "16ADDU" ->
                x = unsigned(y).multiply(new BigInteger(name.replace("ADDU", ""))).add(unsigned(z)).longValue();
            case "CMP" -> x = signed(y).compareTo(signed(z));
            case "CMPU" -> x = unsigned(y).compareTo(unsigned(z));
            case "SL" -> {
                fitted(signed(y).shiftLeft(shift));
                rA = all && y != 0 ? 64 : rA;
            }
            case "SLU" -> x = unsigned(y).shiftLeft(shift).longValue();
            case "SR" -> x = signed(y).shiftRight(shift).longValue();
            case "SRU" -> x = unsigned(y).shiftRight(shift).longValue();
            default -> bitwise(name, y, z, mask);
        }
    }

    private static void divide(long y, long z) {
        if (z == 0) {
            x = 0;
            rR = y;
            rA = 128;
        } else if (y == Long.MIN_VALUE && z == -1) {
            x = y;
            rR = 0;
            rA = 64;
        } else {
            BigInteger[] both = signed(y).divideAndRemainder(signed(z));
            boolean down = both[1].signum() != 0 && both[1].signum() != signed(z).signum();
            x = both[0].longValue() - (down ? 1 : 0);
            rR = both[1].longValue() + (down ? z : 0);
        }
    }

    private static void divideWide(long y, long z, long high) {
        if (unsigned(z).compareTo(unsigned(high)) <= 0) {
            x = high;
            rR = y;
        } else {
            BigInteger[] both = unsigned(high).shiftLeft(64).add(unsigned(y)).divideAndRemainder(unsigned(z));
            x = both[0].longValue();
            rR = both[1].longValue();
        }
    }

    private static void bitwise(String name, long y, long z, long mask) {
        switch (name) {
            case "OR" -> x = y | z;
            case "ORN" -> x = y | ~z;
            case "NOR" -> x = ~(y | z);
            case "XOR" -> x = y ^ z;
            case "AND" -> x = y & z;
            case "ANDN" -> x = y & ~z;
            case "NAND" -> x = ~(y & z);
            case "NXOR" -> x = ~(y ^ z);
            case "BDIF" -> difference(y, z, 8);
            case "WDIF" -> difference(y, z, 16);
            case "TDIF" -> difference(y, z, 32);
            case "ODIF" -> difference(y, z, 64);
            case "SADD" -> x = unsigned(y).andNot(unsigned(z)).bitCount();
            case "MUX" -> {
                x = 0;
                for (int i = 0; i < 64; i++) {
                    x |= ((mask >> i & 1) == 1 ? y : z) & 1L << i;
                }
            }
            case "MOR", "MXOR" -> matrix(name, y, z);
            default -> conditional(name.substring(0, 2), name.substring(2), y, z);
        }
    }

    private static void difference(long y, long z, int bits) {
        BigInteger sum = BigInteger.ZERO;
        BigInteger mask = BigInteger.ONE.shiftLeft(bits).subtract(BigInteger.ONE);
        for (int i = 0; i < 64; i += bits) {
            BigInteger part = unsigned(y).shiftRight(i).and(mask).subtract(unsigned(z).shiftRight(i).and(mask));
            sum = sum.add(part.max(BigInteger.ZERO).shiftLeft(i));
        }
        x = sum.longValue();
    }

    private static void matrix(String name, long y, long z) {
        x = 0;
        for (int i = 0; i < 8; i++) {
            for (int bit = 0; bit < 8; bit++) {
                int count = 0;
                for (int k = 0; k < 8; k++) {
                    count += (y >> 8 * k + bit & 1) == 1 && (z >> 8 * i + k & 1) == 1 ? 1 : 0;
                }
                if (name.equals("MOR") ? count > 0 : count % 2 == 1) {
                    x |= 1L << 8 * i + bit;
                }
            }
        }
    }

    static boolean isSo(String condition, long y) {
        return switch (condition) {
            case "N" -> y < 0;
            case "Z" -> y == 0;
            case "P" -> y > 0;
            case "OD" -> y % 2 != 0;
            case "NN" -> y >= 0;
            case "NZ" -> y != 0;
            case "NP" -> y <= 0;
            default -> y % 2 == 0;
        };
    }

    private static void conditional(String kind, String condition, long y, long z) {
        x = isSo(condition, y) ? z : kind.equals("CS") ? OLD : 0;
    }

    private static void negations() {
        for (long z : NUMBERS) {
            LittleMix mix = Kit.with(" SETL $10,2048", " LDO $1,$10,0", " NEG $3,200,$1", " GET $4,rA", " PUT rA,0", " NEGU $5,200,$1", " NEG $6,$1", " NEG $7,3,5", " NEG $8,5",
                    " NEGU $9,0,$1");
            Kit.store(mix, 2048, z);
            mix.run(10);
            fitted(signed(200).subtract(signed(z)));
            Kit.due("NEG 200 " + z, mix.register(3), x);
            Kit.due("NEG 200 " + z + ": rA", mix.register(4), rA);
            Kit.due("NEGU 200 " + z, mix.register(5), x);
            Kit.due("NEG 0 " + z, mix.register(6), -z);
            Kit.due("NEG 0 " + z + ": rA", mix.special(21), z == Long.MIN_VALUE ? 64 : 0);
            Kit.due("NEG 3,5", mix.register(7), -2);
            Kit.due("NEG 5", mix.register(8), -5);
            Kit.due("NEGU 0 " + z, mix.register(9), -z);
        }
    }

    private static void wide() {
        String[] ends = {"H", "MH", "ML", "L"};
        for (int i = 0; i < 4; i++) {
            for (long old : NUMBERS) {
                LittleMix mix = Kit.with(" SETL $10,2048", " LDO $1,$10,0", " LDO $2,$10,0", " LDO $3,$10,0", " LDO $4,$10,0", " SET" + ends[i] + " $1,#fedc", " INC" + ends[i] + " $2,#fedc",
                        " OR" + ends[i] + " $3,#fedc", " ANDN" + ends[i] + " $4,#fedc");
                Kit.store(mix, 2048, old);
                mix.run(9);
                long value = 0xfedcL << 48 - 16 * i;
                Kit.due("SET" + ends[i], mix.register(1), value);
                Kit.due("INC" + ends[i], mix.register(2), old + value);
                Kit.due("OR" + ends[i], mix.register(3), old | value);
                Kit.due("ANDN" + ends[i], mix.register(4), old & ~value);
                Kit.due("no event", mix.special(21), 0);
            }
        }
    }

    private static void wideDivisions() {
        long seed = 12345;
        LittleMix mix = null;
        for (int i = 0; i < 400; i++) {
            if (i % 20 == 0) {
                mix = Kit.with(" SETL $10,2048", " LDO $1,$10,0", " LDO $2,$10,8", " LDO $4,$10,16", " PUT rD,$4", " PUT rR,33", " PUT rH,44", " DIVU $3,$1,$2");
            }
            seed = seed * 6364136223846793005L + 1442695040888963407L;
            long y = seed * 31 ^ seed >>> 17;
            long z = seed >>> i % 61;
            long high = (seed ^ seed >>> 29) * 0x9E3779B97F4A7C15L >>> i % 64;
            Kit.store(mix, 2048, y);
            Kit.store(mix, 2056, z);
            Kit.store(mix, 2064, high);
            mix.back();
            mix.run(8);
            check(mix, "DIVU", y, z, high);
        }
    }
}
