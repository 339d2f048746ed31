import java.util.ArrayList;
import java.util.List;

/** Promise 9: LOCAL, MARGINAL and GLOBAL registers, PUSHJ and POP, held against a plain model of them. */
public final class StackTest {
    private static final List<Long> locals = new ArrayList<>();
    private static final List<Long> stack = new ArrayList<>();
    private static final long[] globals = new long[256];
    private static int global;
    private static long seed = 2026;

    public static void main(String[] args) {
        kinds();
        pushes();
        pops();
        tooLong();
        for (int i = 0; i < 400; i++) {
            randomRun(i);
        }
        Kit.end();
    }

    private static void kinds() {
        LittleMix mix = Kit.with(" SETL $5,7", " PUT rL,3", " ADDU $6,$5,1", " GET $1,rL", " GET $10,rL", " PUT rL,200", " SETL $255,4");
        mix.run(1);
        Kit.due("rL", mix.special(20), 6);
        mix.run(1);
        Kit.due("rL is lower", mix.special(20), 3);
        Kit.due("MARGINAL", mix.register(5), 0);
        mix.run(1);
        Kit.due("read as 0", mix.register(6), 1);
        Kit.due("0 before", mix.register(5), 0);
        mix.run(2);
        Kit.due("GET rL", mix.register(1), 7);
        Kit.due("GET rL into a MARGINAL one", mix.register(10), 7);
        mix.run(2);
        Kit.due("rL is at most as it was", mix.special(20), 11);
        Kit.due("GLOBAL", mix.register(255), 4);
        LittleMix minus = Kit.with(" SETL $5,7", " NEG $1,1", " PUT rL,$1", " PUT rG,$1");
        minus.run(4);
        Kit.due("PUT rL, -1", minus.special(20), 6);
        Kit.due("PUT rG, -1", minus.special(19), 255);
        LittleMix bounds = Kit.with(" PUT rG,31", " PUT rG,32", " SETL $40,9", " SETL $31,5", " PUT rG,100", " PUT rG,40", " PUT rG,31", " PUT rL,31", " PUT rG,31");
        bounds.run(1);
        Kit.due("rG 31", bounds.special(19), 255);
        bounds.run(2);
        Kit.due("rG 32", bounds.special(19), 32);
        Kit.due("rL stays", bounds.special(20), 0);
        Kit.due("$40", bounds.register(40), 9);
        bounds.run(2);
        Kit.due("$40 is MARGINAL", bounds.register(40), 0);
        bounds.run(1);
        Kit.due("$40 came to be GLOBAL", bounds.register(40), 0);
        Kit.due("$31 stays", bounds.register(31), 5);
        bounds.run(3);
        Kit.due("rG below 32", bounds.special(19), 40);
        LittleMix low = Kit.with(" SETL $50,1", " PUT rG,50", " PUT rG,51", " CSN $70,$0,1", " ZSN $49,$0,1", " SETL $200,3");
        low.run(2);
        Kit.due("rG below rL", low.special(19), 255);
        low.run(4);
        Kit.due("rG as rL", low.special(19), 51);
        Kit.due("rL", low.special(20), 51);
        LittleMix unset = Kit.with(" CSN $7,$0,1", " ZSN $3,$0,1");
        unset.run(1);
        Kit.due("what isn't written stays MARGINAL", unset.special(20), 0);
        unset.run(1);
        Kit.due("ZS writes 0", unset.special(20), 4);
    }

    private static void pushes() {
        LittleMix mix = Kit.with(" SETL $0,10", " SETL $1,11", " SETL $2,12", " SETL $3,13", " PUSHJ $1,@+8", " SWYM", " PUSHJ $5,@+4", " PUSHJ $255,@+4", " SETL $0,1", " PUSHJ $255,@+4");
        mix.run(5);
        Kit.due("rL", mix.special(20), 2);
        Kit.due("$0", mix.register(0), 12);
        Kit.due("$1", mix.register(1), 13);
        Kit.due("$2", mix.register(2), 0);
        Kit.due("rJ", mix.special(4), 276);
        Kit.due("place", mix.place(), 280);
        Kit.due("stack", mix.taken(2), 2);
        mix.run(1);
        Kit.due("stack with a hole beyond rL", mix.taken(2), 8);
        Kit.due("rL", mix.special(20), 0);
        mix.run(1);
        Kit.due("X not below rG, rL 0", mix.taken(2), 9);
        mix.run(2);
        Kit.due("X not below rG, rL 1", mix.taken(2), 11);
        Kit.due("rL", mix.special(20), 0);
    }

    private static void pops() {
        LittleMix mix = Kit.with(" SETL $0,10", " SETL $1,11", " PUSHJ $1,f", " JMP @", "f SETL $0,1", " SETL $1,2", " SETL $2,3", " POP 3,2");
        Kit.due("run", mix.run(7), 7);
        Kit.due("rL", mix.special(20), 4);
        Kit.due("$0", mix.register(0), 10);
        Kit.due("$1 is the last result", mix.register(1), 3);
        Kit.due("$2 is the first", mix.register(2), 1);
        Kit.due("$3 is the second", mix.register(3), 2);
        Kit.due("it goes on at rJ and 8", mix.place(), 276);
        Kit.due("the stack is empty", mix.taken(2), 0);
        LittleMix more = Kit.with(" PUSHJ $2,@+4", " SETL $0,5", " POP 9,0");
        more.run(3);
        Kit.due("X at most rL + 1", more.special(20), 4);
        Kit.due("the last wasn't LOCAL", more.register(2), 0);
        Kit.due("the first", more.register(3), 5);
        LittleMix none = Kit.with(" SETL $3,1", " PUSHJ $1,@+4", " POP 0,0");
        none.run(3);
        Kit.due("POP 0", none.special(20), 1);
        Kit.due("the others are gone", none.register(3), 0);
        LittleMix full = Kit.with(" SETL $9,9", " PUSHJ $40,@+4", " SETL $255,3", " PUT rG,33", " SETL $0,1", " SETL $1,2", " POP 2,0");
        full.run(7);
        Kit.due("rL at most rG", full.special(20), 33);
        Kit.due("what was pushed", full.register(9), 9);
        Kit.due("what is beyond is lost", full.register(40), 0);
        Kit.due("GLOBAL ones stay", full.register(255), 3);
        LittleMix border = Kit.with(" PUSHJ $30,@+4", " PUT rG,32", " SETL $32,77", " SETL $31,5", " SETL $0,6", " POP 33,0");
        border.run(6);
        Kit.due("$30: $32 wasn't LOCAL", border.register(30), 0);
        Kit.due("$31: the first", border.register(31), 6);
        Kit.due("$32 is GLOBAL", border.register(32), 77);
        Kit.due("rL", border.special(20), 32);
    }

    private static void tooLong() {
        LittleMix mix = Kit.with(" SETL $1,7", " PUSHJ $199,@+4", " PUSHJ $99,@+4", " PUSHJ $0,@+4", " SWYM");
        Kit.due("300 numbers", mix.run(3), 3);
        Kit.due("stack", mix.taken(2), 300);
        Kit.due("one more", mix.run(9), 0);
        Kit.due("stopped", mix.stopped(), 2);
        Kit.due("rJ stays", mix.special(4), 268);
        Kit.due("the stack stays", mix.taken(2), 300);
        Kit.due("place", mix.place(), 268);
        LittleMix over = Kit.with(" SETL $1,7", " PUSHJ $199,@+4", " SETL $5,6", " PUSHJ $100,@+4");
        Kit.due("301 numbers", over.run(9), 3);
        Kit.due("stopped", over.stopped(), 2);
        Kit.due("registers stay", over.register(5), 6);
        Kit.due("rL stays", over.special(20), 6);
        Kit.due("stack", over.taken(2), 200);
    }

    private static int next(int bound) {
        seed = seed * 6364136223846793005L + 1442695040888963407L;
        return (int) ((seed >>> 33) % bound);
    }

    private static void randomRun(int number) {
        LittleMix mix = new LittleMix();
        locals.clear();
        stack.clear();
        global = 255;
        java.util.Arrays.fill(globals, 0);
        int widest = number % 3 == 0 ? 256 : number % 3 == 1 ? 40 : 6;
        boolean going = true;
        for (int i = 0; i < 60 && going; i++) {
            int place = (int) mix.place();
            int word = step(widest);
            going = word != 0;
            if (going) {
                mix.store(place & -8, word, word);
                Kit.due("run " + number + " step " + i, mix.run(1), 1);
            }
        }
        Kit.due("rL", mix.special(20), locals.size());
        Kit.due("rG", mix.special(19), global);
        Kit.due("stack", mix.taken(2), stack.size());
        for (int k = 0; k < 256; k++) {
            Kit.due("run " + number + " register " + k, mix.register(k), k >= global ? globals[k] : local(k));
        }
    }

    private static long local(int k) {
        return k < locals.size() ? locals.get(k) : 0;
    }

    /** Does one thing to the model; the instruction for it, 0 if the machine would stop. */
    private static int step(int widest) {
        int x = next(widest);
        switch (next(6)) {
            case 0:
            case 1:
                int value = next(65536);
                write(x, value);
                return 0xe3000000 | x << 16 | value;
            case 2:
                return push(x) ? 0xf2000000 | x << 16 : 0;
            case 3:
                if (stack.isEmpty()) {
                    return 0xfd000000;
                }
                pop(x);
                return 0xf8000000 | x << 16;
            case 4:
                while (locals.size() > x) {
                    locals.remove(locals.size() - 1);
                }
                return 0xf7140000 | x;
            default:
                int z = next(2) == 0 ? next(256) : 32 + next(12);
                putGlobal(z);
                return 0xf7130000 | z;
        }
    }

    private static void write(int k, long value) {
        if (k >= global) {
            globals[k] = value;
            return;
        }
        while (locals.size() <= k) {
            locals.add(0L);
        }
        locals.set(k, value);
    }

    private static void putGlobal(int z) {
        if (z < 32 || z < locals.size()) {
            return;
        }
        for (int k = z; k < global; k++) {
            globals[k] = 0;
        }
        global = z;
    }

    private static boolean push(int x) {
        int hole = x >= global ? locals.size() : x;
        if (stack.size() + hole + 1 > 300) {
            return false;
        }
        for (int k = 0; k < hole; k++) {
            stack.add(local(k));
        }
        stack.add((long) hole);
        for (int k = 0; k <= hole && !locals.isEmpty(); k++) {
            locals.remove(0);
        }
        return true;
    }

    private static void pop(int x) {
        int results = Math.min(x, locals.size() + 1);
        List<Long> fresh = new ArrayList<>();
        int hole = stack.remove(stack.size() - 1).intValue();
        for (int k = 0; k < hole; k++) {
            fresh.add(0, stack.remove(stack.size() - 1));
        }
        if (results > 0) {
            fresh.add(local(results - 1));
            for (int k = 0; k < results - 1; k++) {
                fresh.add(local(k));
            }
        }
        locals.clear();
        locals.addAll(fresh.subList(0, Math.min(fresh.size(), global)));
    }
}
