/** Promises 6 and 7: byteAt and store. */
public final class MemoryTest {
    public static void main(String[] args) {
        bytes();
        stores();
        Kit.end();
    }

    private static void bytes() {
        LittleMix mix = Kit.with(" LOC 0", " BYTE 200", " LOC 4095", " BYTE 255");
        Kit.due("first", mix.byteAt(0), 200);
        Kit.due("last", mix.byteAt(4095), 255);
        for (int place : new int[] {-1, 4096, Integer.MAX_VALUE, Integer.MIN_VALUE}) {
            Kit.due("byteAt " + place, mix.byteAt(place), LittleMix.NONE);
        }
    }

    private static void stores() {
        LittleMix mix = new LittleMix();
        for (int place : new int[] {0, 8, 2048, 4088}) {
            Kit.due("store " + place, mix.store(place, 0x81020304, 0xf5060708), true);
            Kit.due("stored " + place, Kit.bytes(mix, place, 8), 0x81020304f5060708L);
        }
        for (int place : new int[] {-8, 1, 4, 12, 4089, 4092, 4096, Integer.MIN_VALUE, Integer.MAX_VALUE, Integer.MAX_VALUE - 7}) {
            Kit.due("store " + place, mix.store(place, -1, -1), false);
        }
        Kit.due("nothing else", Kit.bytes(mix, 16, 8), 0);
        Kit.due("nothing at the end", Kit.bytes(mix, 4088, 8), 0x81020304f5060708L);
        Kit.due("store", mix.store(0, 0, -1), true);
        Kit.due("the low number has no sign", Kit.bytes(mix, 0, 8), 0xffffffffL);
        LittleMix code = Kit.with(" SWYM");
        code.run(10);
        code.store(256, 0xe3010005, 0xe3020006);
        code.back();
        Kit.due("what was stored is executed", code.run(2), 2);
        Kit.due("second", code.register(2), 6);
    }
}
