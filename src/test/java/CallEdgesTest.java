import java.util.function.Consumer;
import java.util.function.Supplier;

/** The boundary cases of the calls from byteAt (promise 6) to taken (14), and the limit of 512 calls, sentence by sentence. */
public final class CallEdgesTest {
    private static final int[] EXTREMES = {-1, Integer.MIN_VALUE, Integer.MAX_VALUE, Integer.MIN_VALUE + 8, -8, -256};

    public static void main(String[] args) {
        newObject();
        bytes();
        stores();
        storesRefused();
        backKeepsMemory();
        runs();
        runsRefused();
        runsToTheStop();
        stopped();
        registers();
        specials();
        place();
        taken();
        askingChangesNothing();
        manyCalls();
        Kit.end();
    }

    private static LittleMix busy() {
        LittleMix mix = Kit.with("a SETL $3,7", " SETL $255,2048", " STO $3,$255,8", " PUT rG,200", " SETL $200,5", " PUT rM,9", " DIV $1,$2,0", " PUSHJ $2,@+4", " SETL $0,1", "b JMP @");
        Kit.due("run", mix.run(20), 20);
        Kit.store(mix, 0, 0x0102030405060708L);
        Kit.store(mix, 4088, 0xf1f2f3f4f5f6f7f8L);
        Kit.feed(mix, "tape BYTE 1,2,3,4   ");
        return mix;
    }

    private static void staysWith(String what, Consumer<LittleMix> call) {
        Supplier<LittleMix> after = () -> {
            LittleMix mix = busy();
            call.accept(mix);
            return mix;
        };
        Snapshot.same(what, CallEdgesTest::busy, after);
    }

    private static void newObject() {
        Kit.says("An empty tape, MEMORY 0, SET BACK");
        LittleMix mix = new LittleMix();
        for (int k = 0; k < 256; k++) {
            Kit.due("register " + k, mix.register(k), 0);
        }
        for (int k = -1; k < 34; k++) {
            Kit.due("special " + k, mix.special(k), k == 19 ? 255 : 0);
        }
        LittleMix tape = new LittleMix();
        Kit.due("no byte is on the tape", tape.assemble(1), LittleMix.NONE);
        for (int i = 0; i < 80; i++) {
            Kit.due("room for 1600", tape.feed(0, 0, 0, 0, 0), true);
        }
        Kit.due("no more", tape.feed(0, 0, 0, 0, 0), false);
        for (int from = 0; from < 4096; from += 500) {
            LittleMix memory = new LittleMix();
            for (int at = from; at < from + 500 && at < 4096; at++) {
                Kit.due("byteAt " + at, memory.byteAt(at), 0);
            }
        }
        Snapshot.same("set back", LittleMix::new, () -> {
            LittleMix other = new LittleMix();
            other.back();
            return other;
        });
    }

    private static void bytes() {
        Kit.says("A byte of MEMORY; NONE if there is none such");
        LittleMix mix = busy();
        Kit.due("0", mix.byteAt(0), 1);
        Kit.due("7", mix.byteAt(7), 8);
        Kit.due("4088", mix.byteAt(4088), 0xf1);
        Kit.due("4095", mix.byteAt(4095), 0xf8);
        for (int none : new int[] {4096, 4097, 8192, 65536, 1 << 30}) {
            Kit.due("byteAt " + none, mix.byteAt(none), LittleMix.NONE);
        }
        for (int none : EXTREMES) {
            Kit.due("byteAt " + none, mix.byteAt(none), LittleMix.NONE);
        }
    }

    private static void stores() {
        Kit.says("Eight bytes of MEMORY from a place that is a multiple of eight become those of two numbers, the highest first");
        for (int place : new int[] {0, 8, 256, 4080, 4088}) {
            LittleMix mix = new LittleMix();
            Kit.due("store", mix.store(place, 0x80000001, 0x7fffffff), true);
            Kit.due("stored at " + place, Kit.bytes(mix, place, 8), 0x800000017fffffffL);
            Kit.due("store", mix.store(place, 0, 0x80000000), true);
            Kit.due("stored at " + place, Kit.bytes(mix, place, 8), 0x80000000L);
            Kit.due("store", mix.store(place, -1, 0), true);
            Kit.due("stored at " + place, Kit.bytes(mix, place, 8), 0xffffffff00000000L);
            Kit.due("before", place == 0 ? 0 : mix.byteAt(place - 1), 0);
            Kit.due("behind", place == 4088 ? 0 : mix.byteAt(place + 8), 0);
        }
    }

    private static void storesRefused() {
        Kit.says("false if there are none such");
        LittleMix mix = new LittleMix();
        for (int place = 0; place < 24; place++) {
            Kit.due("store " + place, mix.store(place, 1, 1), place % 8 == 0);
        }
        for (int place : new int[] {4089, 4092, 4095, 4096, 4104, 1 << 30, Integer.MAX_VALUE - 7}) {
            Kit.due("store " + place, mix.store(place, 1, 1), false);
        }
        for (int place : EXTREMES) {
            Kit.due("store " + place, mix.store(place, 1, 1), false);
        }
        for (int place : new int[] {-8, 1, 4, 7, 4089, 4092, 4096}) {
            staysWith("store " + place, one -> Kit.due("store", one.store(place, -1, -1), false));
        }
    }

    private static void backKeepsMemory() {
        Kit.says("The machine is SET BACK (MEMORY stays)");
        LittleMix mix = busy();
        mix.back();
        Kit.due("stored by the machine", mix.byteAt(2063), 7);
        Kit.due("stored by a call", mix.byteAt(4095), 0xf8);
        Kit.due("assembled", mix.byteAt(256), 227);
        Kit.due("the labels stay", mix.label(1), 292);
        Kit.due("the tape stays", mix.assemble(20), 0);
        Kit.due("and holds what it held", Kit.bytes(mix, 256, 4), 0x01020304);
        LittleMix twice = busy();
        twice.back();
        twice.back();
        Kit.due("it runs again", twice.run(20), 20);
        Kit.due("oops", twice.taken(0), 79);
        LittleMix ill = busy();
        Kit.due("ILL", ill.assemble(4), 1);
        ill.back();
        Kit.due("illAt stays", ill.illAt(), 0);
    }

    private static void runs() {
        Kit.says("At most n (0 .. 5000, else none) instructions are EXECUTED");
        LittleMix mix = Kit.with(" JMP @");
        int sum = 0;
        for (int n : new int[] {0, 1, 2, 4999, 5000, 0, 1}) {
            Kit.due("run " + n, mix.run(n), n);
            sum += n;
            Kit.due("all", mix.taken(0), sum);
        }
    }

    private static void runsRefused() {
        Kit.says("n (0 .. 5000, else none)");
        for (int n : new int[] {-1, 5001, 10000, Integer.MAX_VALUE, Integer.MIN_VALUE}) {
            staysWith("run " + n, mix -> Kit.due("run", mix.run(n), 0));
        }
        staysWith("run 0", mix -> Kit.due("run", mix.run(0), 0));
        LittleMix stop = Kit.with(" TRAP 0");
        Kit.due("run 5001 doesn't come to the stop", stop.run(5001), 0);
        Kit.due("not stopped", stop.stopped(), 0);
        Kit.due("nor does run 0", stop.run(0), 0);
        Kit.due("not stopped", stop.stopped(), 0);
        Kit.due("run 1 does", stop.run(1), 0);
        Kit.due("stopped", stop.stopped(), 5);
    }

    private static void runsToTheStop() {
        Kit.says("until it STOPS: how many were, that with which it stopped not counted");
        for (int n = 0; n < 6; n++) {
            LittleMix mix = Kit.with(" SWYM", " SWYM", " SWYM", " TRAP 0");
            Kit.due("run " + n, mix.run(n), Math.min(n, 3));
            Kit.due("stopped behind run " + n, mix.stopped(), n > 3 ? 5 : 0);
            Kit.due("place behind run " + n, mix.place(), 256 + 4 * Math.min(n, 3));
        }
    }

    private static void stopped() {
        Kit.says("0 if it hasn't stopped, else why");
        Kit.due("a new one", new LittleMix().stopped(), 0);
        Kit.due("1", Kit.ran(" GET $1,rA", " LOC 256", " BYTE 1").stopped(), 1);
        Kit.due("2", Kit.ran(" PUSHJ $0,256").stopped(), 2);
        Kit.due("3", Kit.ran(" POP 0,0").stopped(), 3);
        Kit.due("4", Kit.ran(" JMP 4096").stopped(), 4);
        Kit.due("5", Kit.ran(" TRAP").stopped(), 5);
        Kit.due("none", Kit.ran(" JMP @").stopped(), 0);
    }

    private static void registers() {
        Kit.says("A register as it is read; 0 if there is none such");
        LittleMix mix = Kit.with(" SETL $0,1", " SETL $254,2", " SETL $255,3", " PUT rL,3");
        mix.run(3);
        Kit.due("$0", mix.register(0), 1);
        Kit.due("$254", mix.register(254), 2);
        Kit.due("$255", mix.register(255), 3);
        for (int none : new int[] {256, 257, 510, 511, 512}) {
            Kit.due("register " + none, mix.register(none), 0);
        }
        for (int none : EXTREMES) {
            Kit.due("register " + none, mix.register(none), 0);
        }
        mix.run(1);
        Kit.due("MARGINAL", mix.register(254), 0);
        Kit.due("LOCAL", mix.register(0), 1);
        Kit.due("GLOBAL", mix.register(255), 3);
        Kit.due("asking makes none LOCAL", mix.special(20), 3);
    }

    private static void specials() {
        Kit.says("A SPECIAL register; 0 if there is none such");
        int[] told = {0, 1, 3, 4, 5, 6, 24, 25, 26, 27};
        String[] lines = new String[told.length + 2];
        for (int i = 0; i < told.length; i++) {
            lines[i] = " PUT " + told[i] + "," + (100 + told[i]);
        }
        lines[told.length] = " PUT rA,121";
        lines[told.length + 1] = " SETL $119,1";
        LittleMix mix = Kit.with(lines);
        mix.run(12);
        String all = " 0 1 3 4 5 6 20 21 24 25 26 27 ";
        for (int k = -1; k < 260; k++) {
            long want = k == 19 ? 255 : all.contains(" " + k + " ") ? 100 + k : 0;
            Kit.due("special " + k, mix.special(k), want);
        }
        for (int none : EXTREMES) {
            Kit.due("special " + none, mix.special(none), 0);
        }
    }

    private static void place() {
        Kit.says("Where it goes on");
        Kit.due("a new one", new LittleMix().place(), 256);
        for (long rW : new long[] {0, 3, 4095, 1L << 40, -1, Long.MIN_VALUE, Long.MAX_VALUE}) {
            LittleMix mix = Kit.loaded(new long[] {rW}, " PUT rW,$0", " RESUME");
            mix.run(2);
            Kit.due("place", mix.place(), rW);
        }
        LittleMix stop = Kit.ran(" SWYM", " TRAP 0");
        Kit.due("stopped", stop.place(), 260);
        stop.back();
        Kit.due("set back", stop.place(), 256);
    }

    private static void taken() {
        Kit.says("What 0: how many oops, 1: mems it took since it was SET BACK; 2: how many numbers the stack holds; NONE for another what");
        LittleMix mix = busy();
        int[] want = {79, 1, 3};
        for (int what = 0; what < 3; what++) {
            Kit.due("taken " + what, mix.taken(what), want[what]);
        }
        for (int what : new int[] {3, 4, 256}) {
            Kit.due("taken " + what, mix.taken(what), LittleMix.NONE);
        }
        for (int what : EXTREMES) {
            Kit.due("taken " + what, mix.taken(what), LittleMix.NONE);
        }
        mix.back();
        for (int what = 0; what < 3; what++) {
            Kit.due("set back: taken " + what, mix.taken(what), 0);
        }
        LittleMix again = busy();
        Kit.due("good", again.assemble(0), 0);
        for (int what = 0; what < 3; what++) {
            Kit.due("a new source: taken " + what, again.taken(what), 0);
        }
    }

    private static void askingChangesNothing() {
        Kit.says("the answers and state changes described above");
        staysWith("asking", mix -> {
            for (int k : new int[] {-1, 0, 3, 100, 199, 200, 255, 256, 4095, 4096, Integer.MAX_VALUE, Integer.MIN_VALUE}) {
                mix.register(k);
                mix.special(k);
                mix.byteAt(k);
                mix.label(k);
                mix.taken(k);
            }
            mix.illAt();
            mix.stopped();
            mix.place();
        });
    }

    private static void manyCalls() {
        Kit.says("An object is used for at most 512 calls after it has been made");
        LittleMix mix = new LittleMix();
        for (int round = 0; round < 5; round++) {
            for (int i = 0; i < 80; i++) {
                mix.feed(0x2a2a2a2a, 0x2a2a2a2a, 0x2a2a2a2a, 0x2a2a2a2a, 0x2a2a2a2a);
            }
            mix.assemble(1600);
        }
        Kit.due("call 408", mix.assemble(Kit.feed(mix, " LDO $1,$2,0\n DIV $1,$2,0\n JMP 256\n")), 0);
        long oops = 0;
        for (int call = 409; call < 512; call++) {
            mix.run(4998);
            oops += 1666L * 62;
        }
        Kit.due("call 512", mix.taken(0), oops);
    }
}
