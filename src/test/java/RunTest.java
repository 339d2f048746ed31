/** Promise 9: how many are executed, where it goes on, and the instructions that are not mere arithmetic. */
public final class RunTest {
    private static final String[] CONDITIONS = {"N", "Z", "P", "OD", "NN", "NZ", "NP", "EV"};

    public static void main(String[] args) {
        counts();
        branches();
        jumps();
        specials();
        oddPlaces();
        Kit.end();
    }

    private static void counts() {
        LittleMix mix = Kit.with(" JMP @");
        for (int n : new int[] {-1, 5001, Integer.MIN_VALUE, Integer.MAX_VALUE, 0}) {
            Kit.due("run " + n, mix.run(n), 0);
            Kit.due("nothing was executed", mix.taken(0), 0);
        }
        Kit.due("run 1", mix.run(1), 1);
        Kit.due("run 5000", mix.run(5000), 5000);
        Kit.due("all", mix.taken(0), 5001);
        LittleMix ends = Kit.with(" SWYM", " SWYM", " TRAP 0,0,1", " SWYM");
        Kit.due("run 0", ends.run(0), 0);
        Kit.due("not stopped", ends.stopped(), 0);
        Kit.due("run 2", ends.run(2), 2);
        Kit.due("not yet", ends.stopped(), 0);
        Kit.due("run 5", ends.run(5), 0);
        Kit.due("stopped", ends.stopped(), 5);
        Kit.due("for good", ends.run(5), 0);
        ends.store(264, 0xfd000000, 0xfd000000);
        Kit.due("even if memory is another", ends.run(5), 0);
    }

    private static void branches() {
        long[] values = {0, 1, 2, -1, -2, Long.MIN_VALUE, Long.MAX_VALUE};
        for (String condition : CONDITIONS) {
            for (String kind : new String[] {"B", "PB"}) {
                for (long value : values) {
                    LittleMix mix = Kit.with(" SETL $1,2048", " LDO $2,$1,0", " JMP b", "a SWYM", "b " + kind + condition + " $2,c", " LOC 300", "c " + kind + condition + " $2,a");
                    Kit.store(mix, 2048, value);
                    boolean so = ArithmeticTest.isSo(condition, value);
                    mix.run(4);
                    Kit.due(kind + condition + " of " + value, mix.place(), so ? 300 : 276);
                    int cost = so == kind.equals("B") ? 3 : 1;
                    Kit.due(kind + condition + " of " + value + ": oops", mix.taken(0), 3 + cost);
                    if (so) {
                        mix.run(1);
                        Kit.due(kind + condition + " back", mix.place(), 268);
                    }
                }
            }
        }
    }

    private static void jumps() {
        LittleMix mix = Kit.with(" JMP 4092", " LOC 4092", " JMP 260", " LOC 260", " GETA $1,0", " GETA $2,@", " GETA $3,5000", " GETA $4,-400", " JMP -4");
        Kit.due("run", mix.run(20), 7);
        Kit.due("GETA back", mix.register(1), 0);
        Kit.due("GETA here", mix.register(2), 264);
        Kit.due("GETA on", mix.register(3), 5000);
        Kit.due("GETA below 0", mix.register(4), -400);
        Kit.due("JMP below 0", mix.place(), -4);
        Kit.due("stopped", mix.stopped(), 4);
        LittleMix end = Kit.with(" JMP 4092", " LOC 4092", " SWYM");
        Kit.due("to the end", end.run(20), 2);
        Kit.due("behind the end", end.place(), 4096);
        Kit.due("stopped there", end.stopped(), 4);
        LittleMix far = Kit.with(" JMP 4096");
        Kit.due("beyond the end", far.run(20), 1);
        Kit.due("stopped beyond", far.stopped(), 4);
    }

    private static void specials() {
        for (int k : new int[] {0, 1, 3, 4, 5, 6, 24, 25, 26, 27}) {
            LittleMix mix = Kit.with(" SETH $1,#8001", " PUT " + k + ",$1", " GET $2," + k, " PUT " + k + ",255");
            mix.run(3);
            Kit.due("PUT and GET of " + k, mix.register(2), 0x8001L << 48);
            mix.run(1);
            Kit.due("PUT of a number to " + k, mix.special(k), 255);
        }
        LittleMix events = Kit.with(" NEG $1,1", " PUT rA,$1");
        events.run(2);
        Kit.due("rA has 18 bits", events.special(21), (1 << 18) - 1);
        LittleMix swym = Kit.with(" SETL $1,1", " SWYM 1,2,3", " TRAP 1,0,0", " TRAP 0,1,0", " TRAP 0,0,1");
        Kit.due("TRAP with others and SWYM", swym.run(10), 4);
        Kit.due("nothing", swym.special(20), 2);
        LittleMix ignored = new LittleMix();
        // PUT with a byte Y, GET with one: it isn't told that they must be 0
        ignored.store(256, 0xf7050907, 0xfe020905);
        Kit.due("Y of PUT and GET", ignored.run(2), 2);
        Kit.due("GET", ignored.register(2), 7);
    }

    private static void oddPlaces() {
        LittleMix mix = Kit.with(" SETL $1,2049", " PUT rW,$1", " RESUME", " LOC 2048", " BYTE 0,#e3,2,0,9,#e3,3,0,8");
        Kit.due("run", mix.run(5), 5);
        Kit.due("an instruction at an odd place", mix.register(2), 9);
        Kit.due("and the next", mix.register(3), 8);
        Kit.due("place", mix.place(), 2057);
        LittleMix end = Kit.with(" SETL $1,4093", " PUT rW,$1", " RESUME");
        Kit.due("run", end.run(5), 3);
        Kit.due("not within memory", end.stopped(), 4);
        Kit.due("there", end.place(), 4093);
    }
}
