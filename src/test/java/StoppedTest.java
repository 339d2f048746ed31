/** Promise 10. */
public final class StoppedTest {
    public static void main(String[] args) {
        told();
        specials();
        others();
        Kit.end();
    }

    private static boolean isTold(int op) {
        return op == 0 || op >= 24 && op < 142 || op >= 160 && op < 174 || op == 180 || op == 181 || op >= 192 && op < 250 || op >= 253;
    }

    private static void told() {
        for (int op = 0; op < 256; op++) {
            LittleMix mix = Kit.with(" PUSHJ $0,@+4", " SETL $2,3");
            mix.store(264, op << 24 | 0x010201, 0);
            Kit.due("instruction " + op, mix.run(3), isTold(op) ? 3 : 2);
            Kit.due("instruction " + op + ": stopped", mix.stopped(), isTold(op) ? 0 : 1);
            if (!isTold(op)) {
                Kit.due("place", mix.place(), 264);
                Kit.due("oops", mix.taken(0), 2);
                Kit.due("rL", mix.special(20), 3);
                Kit.due("for good", mix.run(1), 0);
            }
        }
    }

    private static void specials() {
        for (int k = 0; k < 256; k++) {
            boolean is = k < 28 && " 0 1 3 4 5 6 19 20 21 24 25 26 27 ".contains(" " + k + " ");
            LittleMix mix = new LittleMix();
            mix.store(256, 0xf7000000 | k << 16 | 40, 0xfe090000 | k);
            Kit.due("PUT of " + k, mix.run(1), is ? 1 : 0);
            Kit.due("PUT of " + k + ": stopped", mix.stopped(), is ? 0 : 1);
            mix.back();
            mix.store(256, 0xfe090000 | k, 0);
            Kit.due("GET of " + k, mix.run(1), is ? 1 : 0);
            Kit.due("GET of " + k + ": stopped", mix.stopped(), is ? 0 : 1);
            Kit.due("GET of " + k + ": rL", mix.special(20), is ? 10 : 0);
        }
    }

    private static void others() {
        Kit.due("none yet", new LittleMix().stopped(), 0);
        Kit.due("TRAP", Kit.ran(" TRAP 0,0,9").stopped(), 5);
        LittleMix pop = Kit.ran(" SETL $1,3", " POP 1,0");
        Kit.due("POP", pop.stopped(), 3);
        Kit.due("place", pop.place(), 260);
        Kit.due("rL", pop.special(20), 2);
        Kit.due("oops", pop.taken(0), 1);
        LittleMix push = Kit.ran(" PUSHJ $9,256");
        Kit.due("PUSHJ", push.stopped(), 2);
        Kit.due("stack", push.taken(2), 300);
        Kit.due("bytes", Kit.ran(" NEG $1,1", " LDB $1,$1,0").stopped(), 4);
        Kit.due("an instruction", Kit.ran(" JMP 4096").stopped(), 4);
        pop.back();
        Kit.due("set back", pop.stopped(), 0);
    }
}
