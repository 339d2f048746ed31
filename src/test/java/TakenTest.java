/** Promise 14. */
public final class TakenTest {
    public static void main(String[] args) {
        oops(1, "ADD $1,$2,$3");
        oops(10, "MUL $1,$2,$3");
        oops(10, "MULU $1,$2,3");
        oops(60, "DIV $1,$2,3");
        oops(60, "DIVU $1,$2,3");
        oops(60, "DIV $1,$2,0");
        oops(3, "BZ $1,@");
        oops(1, "BNZ $1,@");
        oops(1, "PBZ $1,@");
        oops(3, "PBNZ $1,@");
        oops(1, "PUSHJ $1,@");
        oops(1, "JMP @");
        oops(1, "GETA $1,@");
        oops(5, "RESUME");
        oops(5, "TRIP 1,2,3");
        oops(1, "TRAP 1,2,3");
        oops(1, "SWYM");
        oops(1, "PUT rA,1");
        oops(1, "GET $1,rA");
        oops(1, "STB $1,$2,3");
        oops(1, "LDO $1,$2,3");
        LittleMix pop = Kit.with(" PUSHJ $3,@+4", " POP 0,0");
        pop.run(1);
        Kit.due("stack", pop.taken(2), 4);
        pop.run(1);
        Kit.due("POP", pop.taken(0), 4);
        Kit.due("the stack is empty", pop.taken(2), 0);
        for (int what : new int[] {-1, 3, Integer.MAX_VALUE, Integer.MIN_VALUE}) {
            Kit.due("taken " + what, pop.taken(what), LittleMix.NONE);
        }
        Kit.end();
    }

    private static void oops(int want, String code) {
        LittleMix mix = Kit.with(" " + code);
        Kit.due(code, mix.run(1), 1);
        Kit.due(code + ": oops", mix.taken(0), want);
        Kit.due(code + ": mems", mix.taken(1), code.startsWith("ST") || code.startsWith("LD") ? 1 : 0);
    }
}
