/** Promise 9: loads and stores. */
public final class LoadStoreTest {
    private static final String[] LOADS = {"LDB", "LDBU", "LDW", "LDWU", "LDT", "LDTU", "LDO"};
    private static final String[] STORES = {"STB", "STBU", "STW", "STWU", "STT", "STTU", "STO"};

    public static void main(String[] args) {
        for (int i = 0; i < LOADS.length; i++) {
            loads(LOADS[i], 1 << i / 2, i % 2 == 1);
            stores(STORES[i], 1 << i / 2, i % 2 == 0 && i < 6);
            edges(LOADS[i], 1 << i / 2);
            edges(STORES[i], 1 << i / 2);
        }
        edges("STCO", 8);
        constants();
        Kit.end();
    }

    private static void loads(String name, int size, boolean unsigned) {
        byte[] bytes = {(byte) 0x80, 1, 0x7f, (byte) 0xff, (byte) 0xfe, (byte) 0x90, 0x12, 0x34};
        for (int at = 0; at < 8; at++) {
            LittleMix mix = Kit.with(" SETL $1,2048", " SETL $2," + at, " " + name + " $3,$1," + at, " " + name + " $4,$1,$2", " LOC 2048", " OCTA #80017ffffe901234");
            Kit.due("run", mix.run(4), 4);
            long want = unsigned ? 0 : bytes[at / size * size] < 0 ? -1 : 0;
            for (int k = 0; k < size; k++) {
                want = want << 8 | bytes[at / size * size + k] & 255;
            }
            Kit.due(name + " at " + at, mix.register(3), want);
            Kit.due(name + " at $ " + at, mix.register(4), want);
            Kit.due("mems", mix.taken(1), 2);
        }
    }

    private static void stores(String name, int size, boolean signed) {
        long[] values = {0, 1, -1, 127, 128, -128, -129, 255, 256, 32767, 32768, -32768, -32769, 65535, Integer.MAX_VALUE, Integer.MIN_VALUE, 1L << 31, -(1L << 31) - 1, Long.MAX_VALUE,
            Long.MIN_VALUE, 0x1234567890abcdefL};
        for (int i = 0; i < values.length; i++) {
            int at = i % 8;
            LittleMix mix = Kit.with(" SETL $1,2048", " LDO $2,$1,8", " " + name + " $2,$1," + at);
            Kit.store(mix, 2048, 0x1111111111111111L);
            Kit.store(mix, 2056, values[i]);
            Kit.due("run", mix.run(3), 3);
            int from = at / size * size;
            for (int k = 0; k < 8; k++) {
                long want = k >= from && k < from + size ? values[i] >> 8 * (from + size - 1 - k) & 255 : 0x11;
                Kit.due(name + " of " + values[i] + " byte " + k, mix.byteAt(2048 + k), want);
            }
            long half = size == 8 ? 0 : 1L << 8 * size - 1;
            boolean fits = !signed || values[i] >= -half && values[i] < half;
            Kit.due(name + " of " + values[i] + ": rA", mix.special(21), fits ? 0 : 64);
            Kit.due("mems", mix.taken(1), 2);
        }
    }

    private static void edges(String name, int size) {
        String first = name.equals("STCO") ? "1" : "$3";
        for (long place : new long[] {0, 7, 4088, 4095, 4096, 4097, -1, -8, Long.MIN_VALUE, Long.MAX_VALUE, 1L << 32}) {
            LittleMix mix = Kit.with(" SETL $1,2048", " LDO $2,$1,0", " " + name + " " + first + ",$2,0");
            Kit.store(mix, 2048, place);
            boolean within = place >= 0 && place < 4096;
            Kit.due(name + " at " + place, mix.run(3), within ? 3 : 2);
            Kit.due(name + " at " + place + ": stopped", mix.stopped(), within ? 0 : 4);
            Kit.due(name + " at " + place + ": mems", mix.taken(1), within ? 2 : 1);
            Kit.due(name + " at " + place + ": place", mix.place(), within ? 268 : 264);
            Kit.due(name + " at " + place + ": rL", mix.special(20), within && name.startsWith("L") ? 4 : 3);
        }
        LittleMix around = Kit.with(" NEG $1,8", " " + name + " " + first + ",$1,16", " NEG $2,4", " " + name + " " + first + ",$1,$2");
        Kit.due(name + " goes around", around.run(4), 3);
        Kit.due(name + " below 0", around.stopped(), 4);
    }

    private static void constants() {
        LittleMix mix = Kit.with(" SETL $1,2048", " SETL $2,12", " STCO 255,$1,7", " STCO 1,$1,$2");
        Kit.due("run", mix.run(4), 4);
        Kit.due("STCO", Kit.bytes(mix, 2048, 8), 255);
        Kit.due("STCO $", Kit.bytes(mix, 2056, 8), 1);
        Kit.due("no event", mix.special(21), 0);
        Kit.due("mems", mix.taken(1), 2);
    }
}
