/** Promise 5. */
public final class LabelTest {
    private static final long REGISTER = 1L << 40;

    public static void main(String[] args) {
        LittleMix mix = Kit.with("a IS $0", "b BYTE 1", "* c IS 3", "d TETRA e", "e LOC 1000", "f OCTA 1", "g IS -7", "h IS a+255", "i IS g+1", "j IS @", "k IS rA",
                "l IS #8000000000000000", "m IS #10000000000");
        long[] want = {REGISTER, 256, 260, 264, 1000, -7, REGISTER + 255, -6, 1008, 21, Long.MIN_VALUE, REGISTER};
        for (int k = 0; k < want.length; k++) {
            Kit.due("label " + k, mix.label(k), want[k]);
        }
        Kit.due("label beyond", mix.label(want.length), LittleMix.NONE);
        Kit.due("label -1", mix.label(-1), LittleMix.NONE);
        Kit.due("label most", mix.label(Integer.MAX_VALUE), LittleMix.NONE);
        Kit.due("label least", mix.label(Integer.MIN_VALUE), LittleMix.NONE);
        Kit.assemble(mix, "x IS 1", "y IS z");
        Kit.due("label behind an ill source", mix.label(0), REGISTER);
        mix.back();
        Kit.due("label behind back", mix.label(1), 256);
        Kit.assemble(mix, "x IS 1");
        Kit.due("label of the next source", mix.label(0), 1);
        Kit.due("no second one", mix.label(1), LittleMix.NONE);
        Kit.assemble(mix, "");
        Kit.due("no label", mix.label(0), LittleMix.NONE);
        Kit.end();
    }
}
