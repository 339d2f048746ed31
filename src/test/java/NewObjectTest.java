/** Promise 1. */
public final class NewObjectTest {
    public static void main(String[] args) {
        LittleMix mix = new LittleMix();
        for (int k = 0; k < 256; k += 15) {
            Kit.due("register " + k, mix.register(k), 0);
        }
        for (int k = 0; k < 32; k++) {
            Kit.due("special " + k, mix.special(k), k == 19 ? 255 : 0);
        }
        for (int place = 0; place < 4096; place += 93) {
            Kit.due("byteAt " + place, mix.byteAt(place), 0);
        }
        Kit.due("place", mix.place(), 256);
        Kit.due("stopped", mix.stopped(), 0);
        Kit.due("illAt", mix.illAt(), LittleMix.NONE);
        Kit.due("label", mix.label(0), LittleMix.NONE);
        for (int what = 0; what < 3; what++) {
            Kit.due("taken " + what, mix.taken(what), 0);
        }
        Kit.due("assemble(1) of the empty tape", mix.assemble(1), LittleMix.NONE);
        Kit.due("run of memory 0", mix.run(10), 0);
        Kit.due("stopped by TRAP 0,0,0", mix.stopped(), 5);
        Kit.end();
    }
}
