/** Promises 11, 12 and 13: register, special and place. */
public final class StateTest {
    public static void main(String[] args) {
        LittleMix mix = Kit.with(" SETL $0,1", " SETL $7,8", " SETL $255,9", " PUT rZ,5", " PUT rB,6", " JMP 4092");
        mix.run(6);
        Kit.due("LOCAL", mix.register(0), 1);
        Kit.due("LOCAL, not written", mix.register(3), 0);
        Kit.due("LOCAL", mix.register(7), 8);
        Kit.due("MARGINAL", mix.register(8), 0);
        Kit.due("GLOBAL", mix.register(255), 9);
        for (int k : new int[] {-1, 256, Integer.MAX_VALUE, Integer.MIN_VALUE}) {
            Kit.due("register " + k, mix.register(k), 0);
        }
        Kit.due("rZ", mix.special(27), 5);
        Kit.due("rB", mix.special(0), 6);
        Kit.due("rG", mix.special(19), 255);
        Kit.due("rL", mix.special(20), 8);
        for (int k : new int[] {-1, 2, 7, 8, 18, 22, 23, 28, 31, 32, 255, Integer.MAX_VALUE, Integer.MIN_VALUE}) {
            Kit.due("special " + k, mix.special(k), 0);
        }
        Kit.due("asking changes nothing", mix.special(20), 8);
        Kit.due("place", mix.place(), 4092);
        mix.run(1);
        Kit.due("it stays where it stopped", mix.place(), 4092);
        LittleMix far = Kit.with(" SETH $1,#8000", " PUT rW,$1", " RESUME");
        far.run(5);
        Kit.due("place of 64 bits", far.place(), Long.MIN_VALUE);
        Kit.end();
    }
}
