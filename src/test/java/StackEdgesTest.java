/** The boundary cases of PUSHJ and POP, sentence by sentence. */
public final class StackEdgesTest {
    public static void main(String[] args) {
        notBelowGlobal();
        notLocal();
        atLeastZero();
        nextPlace();
        atMostOneMore();
        noResults();
        lastResult();
        atMostGlobal();
        pushedBeyondGlobal();
        whereItGoesOn();
        deep();
        Kit.end();
    }

    /** Locals $0 .. $(n - 1) are 1 .. n, rG is so much, and the code is next. */
    private static LittleMix with(int locals, int rG, String... code) {
        long[] values = new long[Math.min(locals, 8)];
        for (int k = 0; k < values.length; k++) {
            values[k] = k + 1;
        }
        String[] lines = new String[code.length + 2];
        lines[0] = " PUT rG," + rG;
        lines[1] = locals > 8 ? " SETL $" + (locals - 1) + "," + locals : " SWYM";
        System.arraycopy(code, 0, lines, 2, code.length);
        LittleMix mix = Kit.loaded(values, lines);
        Kit.due("before", mix.run(2), 2);
        Kit.due("rL", mix.special(20), locals);
        Kit.due("rG", mix.special(19), rG);
        return mix;
    }

    private static void registers(LittleMix mix, long... want) {
        for (int k = 0; k < want.length; k++) {
            Kit.due("$" + k, mix.register(k), want[k]);
        }
    }

    private static void notBelowGlobal() {
        Kit.says("PUSHJ: with X not below rG X is rL");
        for (int rG : new int[] {32, 100, 255}) {
            for (int locals : new int[] {0, 1, 3, 8}) {
                for (int x : new int[] {rG - 1, rG, 255}) {
                    LittleMix mix = with(locals, rG, " PUSHJ $" + x + ",@+4", " POP 0,0");
                    Kit.due("run", mix.run(1), 1);
                    Kit.due("X " + x + ", rG " + rG + ", rL " + locals, mix.taken(2), (x < rG ? x : locals) + 1);
                    Kit.due("rL", mix.special(20), 0);
                    mix.run(1);
                    Kit.due("rL behind POP", mix.special(20), x < rG ? x : locals);
                    for (int k = 0; k < locals; k++) {
                        Kit.due("$" + k, mix.register(k), k + 1);
                    }
                }
            }
        }
        for (int x : new int[] {31, 32, 255}) {
            LittleMix all = with(32, 32, " PUSHJ $" + x + ",@+4", " POP 0,0");
            all.run(1);
            Kit.due("X " + x + ", no MARGINAL ones", all.taken(2), x < 32 ? 32 : 33);
            all.run(1);
            Kit.due("X " + x + ", rL behind POP", all.special(20), x < 32 ? 31 : 32);
            Kit.due("X " + x + ", $31 behind POP", all.register(31), x < 32 ? 0 : 32);
        }
    }

    private static void notLocal() {
        Kit.says("$0 .. $(X - 1) (those that aren't LOCAL being 0) and the number X come onto the stack");
        for (int x = 0; x < 6; x++) {
            LittleMix mix = with(3, 255, " PUSHJ $" + x + ",@+4", " SETL $9,99", " POP 0,0");
            mix.run(1);
            Kit.due("X " + x, mix.taken(2), x + 1);
            mix.run(2);
            Kit.due("rL behind POP", mix.special(20), x);
            for (int k = 0; k < 10; k++) {
                Kit.due("X " + x + ", $" + k, mix.register(k), k < x && k < 3 ? k + 1 : 0);
            }
        }
    }

    private static void atLeastZero() {
        Kit.says("rL is X + 1 less, at least 0; the LOCAL registers behind $X become $0 and so on");
        for (int x = 0; x < 7; x++) {
            LittleMix mix = with(5, 255, " PUSHJ $" + x + ",@+4");
            mix.run(1);
            Kit.due("X " + x, mix.special(20), Math.max(0, 5 - x - 1));
            for (int k = 0; k < 8; k++) {
                Kit.due("X " + x + ", $" + k, mix.register(k), k < 5 - x - 1 ? k + x + 2 : 0);
            }
        }
        LittleMix global = with(3, 32, " SETL $32,8", " SETL $255,9", " PUSHJ $0,@+4");
        global.run(3);
        Kit.due("GLOBAL ones stay", global.register(32), 8);
        Kit.due("GLOBAL ones stay", global.register(255), 9);
        registers(global, 2, 3, 0);
    }

    private static void nextPlace() {
        Kit.says("rJ is the next place");
        LittleMix mix = Kit.with(" PUSHJ $0,4092", " LOC 4092", " PUSHJ $0,0", " LOC 0", " PUSHJ $0,0");
        long[] rJ = {260, 4096, 4};
        for (long next : rJ) {
            mix.run(1);
            Kit.due("rJ", mix.special(4), next);
        }
    }

    /** Pushed: two numbers and the 2; then as many locals 11, 12, 13 .. as told. */
    private static LittleMix called(int locals, String pop) {
        String[] code = new String[locals + 2];
        code[0] = " PUSHJ $2,@+4";
        for (int k = 0; k < locals; k++) {
            code[k + 1] = " SETL $" + k + "," + (11 + k);
        }
        code[locals + 1] = pop;
        LittleMix mix = with(2, 255, code);
        Kit.due("run", mix.run(locals + 2), locals + 2);
        Kit.due("the stack", mix.taken(2), 0);
        return mix;
    }

    private static void atMostOneMore() {
        Kit.says("POP: X at most rL + 1");
        for (int locals = 0; locals < 4; locals++) {
            for (int x : new int[] {locals, locals + 1, locals + 2, 255}) {
                LittleMix mix = called(locals, " POP " + x + ",0");
                Kit.due("rL " + locals + ", X " + x, mix.special(20), 2 + Math.min(x, locals + 1));
            }
        }
    }

    private static void noResults() {
        Kit.says("with X above 0 $n becomes $(X - 1) as it was");
        LittleMix none = called(3, " POP 0,0");
        Kit.due("rL", none.special(20), 2);
        registers(none, 1, 2, 0, 0, 0);
        LittleMix one = called(3, " POP 1,0");
        Kit.due("rL", one.special(20), 3);
        registers(one, 1, 2, 11, 0, 0);
    }

    private static void lastResult() {
        Kit.says("$n becomes $(X - 1) as it was (0 if that wasn't LOCAL), those behind it $0 .. $(X - 2) as they were");
        registers(called(3, " POP 2,0"), 1, 2, 12, 11, 0, 0);
        registers(called(3, " POP 3,0"), 1, 2, 13, 11, 12, 0);
        registers(called(3, " POP 4,0"), 1, 2, 0, 11, 12, 13, 0);
        registers(called(3, " POP 255,0"), 1, 2, 0, 11, 12, 13, 0);
        registers(called(0, " POP 1,0"), 1, 2, 0, 0);
        LittleMix global = Kit.with(" PUT rG,32", " SETL $32,7", " PUSHJ $0,@+4", " SETL $31,5", " SETL $0,6", " POP 33,0");
        global.run(6);
        Kit.due("$32 is GLOBAL, not LOCAL", global.register(0), 0);
        Kit.due("$0 as it was", global.register(1), 6);
        Kit.due("rL", global.special(20), 32);
        Kit.due("$32 stays", global.register(32), 7);
        LittleMix last = Kit.with(" PUT rG,32", " SETL $32,7", " PUSHJ $0,@+4", " SETL $31,5", " SETL $0,6", " POP 32,0");
        last.run(6);
        Kit.due("$31 is the last LOCAL one", last.register(0), 5);
        Kit.due("rL", last.special(20), 32);
        Kit.due("$31", last.register(31), 0);
    }

    /** n 30 and so many results with rG 32. */
    private static void results(int x, int rL, long first, long second, long global) {
        LittleMix mix = Kit.with(" PUT rG,32", " SETL $32,7", " SETL $29,3", " PUSHJ $30,@+4", " SETL $0,11", " SETL $1,12", " SETL $2,13", " POP " + x + ",0");
        Kit.due("run", mix.run(8), 8);
        Kit.due("X " + x + ": rL", mix.special(20), rL);
        Kit.due("X " + x + ": $29", mix.register(29), 3);
        Kit.due("X " + x + ": $30", mix.register(30), first);
        Kit.due("X " + x + ": $31", mix.register(31), second);
        Kit.due("X " + x + ": $32", mix.register(32), global);
        Kit.due("X " + x + ": $33", mix.register(33), 0);
    }

    private static void atMostGlobal() {
        Kit.says("rL is n + X, at most rG (what is beyond is lost)");
        results(0, 30, 0, 0, 7);
        results(1, 31, 11, 0, 7);
        results(2, 32, 12, 11, 7);
        results(3, 32, 13, 11, 7);
        results(4, 32, 0, 11, 7);
        results(255, 32, 0, 11, 7);
    }

    private static void pushedBeyondGlobal() {
        Kit.says("rL is n + X, at most rG (what is beyond is lost)");
        for (int n : new int[] {31, 32, 33, 60, 254}) {
            for (int x : new int[] {0, 1, 2}) {
                LittleMix mix = Kit.with(" SETL $31,5", " SETL $40,6", " PUSHJ $" + n + ",@+4", " PUT rL,0", " PUT rG,32", " SETL $32,7", " SETL $40,8", " SETL $0,11", " SETL $1,12", " POP " + x + ",0");
                Kit.due("run", mix.run(10), 10);
                Kit.due("n " + n + ", X " + x + ": rL", mix.special(20), Math.min(n + x, 32));
                Kit.due("n " + n + ", X " + x + ": $31", mix.register(31), n > 31 ? 5 : x == 0 ? 0 : 10 + x);
                Kit.due("n " + n + ", X " + x + ": $32", mix.register(32), 7);
                Kit.due("n " + n + ", X " + x + ": $40", mix.register(40), 8);
                Kit.due("the stack", mix.taken(2), 0);
            }
        }
    }

    private static void whereItGoesOn() {
        Kit.says("it goes on at rJ and 4 YZ");
        for (long rJ : new long[] {0, 5, 2000, -4, Long.MAX_VALUE, Long.MIN_VALUE}) {
            for (int yz : new int[] {0, 1, 255, 256, 65535}) {
                LittleMix mix = Kit.loaded(new long[] {0, rJ}, " PUSHJ $0,@+4", " PUT rJ,$0", " POP 0," + yz);
                Kit.due("run", mix.run(3), 3);
                Kit.due("rJ " + rJ + ", YZ " + yz, mix.place(), rJ + 4L * yz);
                Kit.due("rJ stays", mix.special(4), rJ);
            }
        }
    }

    private static void deep() {
        Kit.says("n, the last number on the stack, and the n before it are taken off");
        LittleMix mix = Kit.with(" SETL $0,40", " PUSHJ $0,f", " TRAP 0", "f PUSHJ $0,@+8", " TRAP 0", " SETL $0,1", " SETL $1,2", " PUSHJ $1,@+8", " TRAP 0", " PUSHJ $3,@+4", " POP 0,0");
        int[] stack = {0, 1, 2, 2, 2, 4, 8, 4};
        for (int i = 0; i < stack.length; i++) {
            Kit.due("step " + i, mix.run(1), 1);
            Kit.due("stack behind step " + i, mix.taken(2), stack[i]);
        }
        LittleMix most = Kit.with(" PUSHJ $0,256");
        Kit.due("300 times", most.run(5000), 300);
        Kit.due("the stack", most.taken(2), 300);
        most.store(256, 0xf8000000, 0xf8000000);
        Kit.due("stopped for good", most.run(1), 0);
        LittleMix back = Kit.with(" PUSHJ $0,256", " POP 0,0");
        Kit.due("299 times", back.run(299), 299);
        back.store(256, 0xf8000000, 0xf8000000);
        Kit.due("all come off", back.run(5000), 299);
        Kit.due("and one more can't", back.stopped(), 3);
        Kit.due("the stack", back.taken(2), 0);
    }
}
