/** Promise 2. */
public final class FeedTest {
    public static void main(String[] args) {
        order();
        room();
        Kit.end();
    }

    private static void order() {
        LittleMix mix = new LittleMix();
        // " BYTE 'A','B',255\n" and two more bytes, the highest first in each number
        Kit.due("feed", mix.feed(0x20425954, 0x45202741, 0x272c2742, 0x272c3235, 0x35207878), true);
        Kit.due("assemble", mix.assemble(20), 0);
        Kit.due("first", mix.byteAt(256), 'A');
        Kit.due("second", mix.byteAt(257), 'B');
        Kit.due("third", mix.byteAt(258), 255);
        mix.feed(0x20425954, 0x45202780, 0x272c27ff, 0x270a0000, 0);
        Kit.due("bytes above 127", mix.assemble(15), 0);
        Kit.due("byte 128", mix.byteAt(256), 128);
        Kit.due("byte 255", mix.byteAt(257), 255);
    }

    private static void room() {
        LittleMix mix = new LittleMix();
        for (int i = 0; i < 80; i++) {
            Kit.due("feed " + i, mix.feed(0x2a2a2a2a, 0x2a2a2a2a, 0x2a2a2a2a, 0x2a2a2a2a, 0x2a2a2a2a), true);
        }
        Kit.due("feed of a full tape", mix.feed(0, 0, 0, 0, 0), false);
        Kit.due("feed of a full tape again", mix.feed(1, 1, 1, 1, 1), false);
        Kit.due("more than there are", mix.assemble(1601), LittleMix.NONE);
        Kit.due("all of them", mix.assemble(1600), 0);
        Kit.due("feed of an emptied tape", mix.feed(0, 0, 0, 0, 0), true);
        Kit.due("not so many", mix.assemble(21), LittleMix.NONE);
        Kit.due("so many", mix.assemble(20), 0);
    }
}
