/** Promise 8. */
public final class BackTest {
    public static void main(String[] args) {
        LittleMix mix = Kit.with(" SETL $1,5", " PUT rG,200", " SETL $250,6", " SETL $254,6", " SETL $255,6", " SETL $255,8", " PUT rM,7", " PUT rB,7", " PUT rZ,7", " STO $1,$255,0", " SETL $255,0", " STO $1,$255,8", " PUSHJ $1,@+4", " SETL $0,9", "x TRAP 0,0,0");
        mix.run(100);
        Kit.due("stopped", mix.stopped(), 5);
        Kit.due("stack", mix.taken(2), 2);
        Kit.due("rG", mix.special(19), 200);
        mix.back();
        for (int k = 0; k < 256; k++) {
            Kit.due("register " + k, mix.register(k), 0);
        }
        for (int k = 0; k < 32; k++) {
            Kit.due("special " + k, mix.special(k), k == 19 ? 255 : 0);
        }
        Kit.due("place", mix.place(), 256);
        Kit.due("not stopped", mix.stopped(), 0);
        for (int what = 0; what < 3; what++) {
            Kit.due("taken " + what, mix.taken(what), 0);
        }
        Kit.due("memory stays", mix.byteAt(15), 5);
        Kit.due("labels stay", mix.label(0), 312);
        Kit.due("it runs again", mix.run(100), 14);
        Kit.due("and stops again", mix.stopped(), 5);
        Kit.end();
    }
}
