import java.util.ArrayList;
import java.util.List;

/** The boundary cases of INSTRUCTIONS: their operands, and what conditions, places, loads and stores do at them. */
public final class InstructionEdgesTest {
    private static final String[] CONDITIONS = {"N", "Z", "P", "OD", "NN", "NZ", "NP", "EV"};
    private static final String[] BYTES = {"TRAP", "RESUME", "SWYM", "TRIP"};

    public static void main(String[] args) {
        lastNumbers();
        negations();
        constants();
        wideNumbers();
        pops();
        threeNumbers();
        specials();
        placesOf();
        howMany();
        registersAndNumbers();
        names();
        conditional();
        branches();
        farPlaces();
        loads();
        stores();
        constantStores();
        wideOnes();
        Kit.end();
    }

    private static List<String> namesOf(String groups) {
        List<String> names = new ArrayList<>();
        for (String group : groups.split(";")) {
            String[] words = group.split(" ");
            names.addAll(List.of(words).subList(1, words.length));
        }
        return names;
    }

    /** The ? of a line may be least .. most, and comes into the lowest bits of the word, so far to the left. */
    private static void bounds(String line, long least, long most, int shift) {
        for (long number : new long[] {least, most}) {
            LittleMix mix = Kit.with(line.replace("?", "" + number));
            Kit.due(line + " with " + number, Kit.bytes(mix, 256, 4) >> shift & most, number);
        }
        // the lowest bits of the last two would do
        for (long number : new long[] {least - 1, most + 1, most + (1L << 32), most - (1L << 32)}) {
            Kit.ill(1, " SWYM", line.replace("?", "" + number));
        }
    }

    private static void lastNumbers() {
        Kit.says("their operands are $X,$Y and $Z or a number 0 .. 255");
        for (String name : namesOf(AssembleTest.PAIRS)) {
            bounds(" " + name + " $1,$2,?", 0, 255, 0);
            bounds(" " + name + " $1,$2,$?", 0, 255, 0);
            bounds(" " + name + " $1,$?,3", 0, 255, 8);
            bounds(" " + name + " $?,$2,3", 0, 255, 16);
        }
    }

    private static void negations() {
        Kit.says("operands $X, a number, $Z or a number: Y - z ($X and one alone: Y 0)");
        for (String name : new String[] {"NEG", "NEGU"}) {
            bounds(" " + name + " $1,?,$2", 0, 255, 8);
            bounds(" " + name + " $1,?,3", 0, 255, 8);
            bounds(" " + name + " $1,2,?", 0, 255, 0);
            bounds(" " + name + " $1,2,$?", 0, 255, 0);
            bounds(" " + name + " $1,?", 0, 255, 0);
            bounds(" " + name + " $1,$?", 0, 255, 0);
            Kit.due("Y is 0", Kit.with(" " + name + " $1,$255").byteAt(258), 0);
            Kit.due("Y is 0", Kit.with(" " + name + " $1,255").byteAt(258), 0);
        }
        LittleMix mix = Kit.loaded(new long[] {7}, " NEG $1,0", " NEG $2,255", " NEG $3,$0", " NEG $4,255,$0", " NEG $5,0,255");
        mix.run(5);
        long[] want = {7, 0, -255, -7, 248, -255};
        for (int k = 0; k < want.length; k++) {
            Kit.due("$" + k, mix.register(k), want[k]);
        }
    }

    private static void constants() {
        Kit.says("180: STCO (operands: a number, $Y, $Z or a number)");
        bounds(" STCO ?,$2,3", 0, 255, 16);
        bounds(" STCO 1,$?,3", 0, 255, 8);
        bounds(" STCO 1,$2,?", 0, 255, 0);
        bounds(" STCO 1,$2,$?", 0, 255, 0);
    }

    private static void wideNumbers() {
        Kit.says("operands $X, a number 0 .. 65535");
        for (String name : AssembleTest.WIDE.split(" ")) {
            bounds(" " + name + " $1,?", 0, 65535, 0);
            bounds(" " + name + " $?,1", 0, 255, 16);
        }
    }

    private static void pops() {
        Kit.says("248: POP: two numbers, 0 .. 255 and 0 .. 65535");
        bounds(" POP ?,1", 0, 255, 16);
        bounds(" POP 1,?", 0, 65535, 0);
    }

    private static void threeNumbers() {
        Kit.says("three numbers 0 .. 255 (those that lack at the end, or all, being 0)");
        for (String name : BYTES) {
            bounds(" " + name + " ?", 0, 255, 16);
            bounds(" " + name + " 1,?", 0, 255, 8);
            bounds(" " + name + " 1,2,?", 0, 255, 0);
            Kit.due("none", Kit.bytes(Kit.with(" " + name), 257, 3), 0);
            Kit.due("one", Kit.bytes(Kit.with(" " + name + " 1"), 257, 3), 0x010000);
            Kit.due("two", Kit.bytes(Kit.with(" " + name + " 1,2"), 257, 3), 0x010200);
            Kit.due("three", Kit.bytes(Kit.with(" " + name + " 1,2,3"), 257, 3), 0x010203);
            Kit.ill(1, " SWYM", " " + name + " 1,2,3,4");
            Kit.ill(1, " SWYM", " " + name + " 0,0,0,0");
        }
    }

    private static void specials() {
        Kit.says("SPECIAL registers (X of PUT, Z of GET) are rB 0, rD 1, rH 3, rJ 4, rM 5, rR 6, rG 19, rL 20, rA 21, rW 24, rX 25, rY 26, rZ 27");
        String told = " 0 1 3 4 5 6 19 20 21 24 25 26 27 ";
        for (int k = -1; k < 260; k++) {
            boolean is = told.contains(" " + k + " ");
            Kit.ill(is ? -1 : 0, " PUT " + k + ",1");
            Kit.ill(is ? -1 : 0, " GET $1," + k);
            if (is) {
                Kit.due("PUT " + k, Kit.with(" PUT " + k + ",1").byteAt(257), k);
                Kit.due("GET " + k, Kit.with(" GET $1," + k).byteAt(259), k);
            }
        }
        bounds(" PUT rB,?", 0, 255, 0);
        bounds(" PUT rB,$?", 0, 255, 0);
        bounds(" GET $?,rB", 0, 255, 16);
        Kit.due("with $Z", Kit.with(" PUT rB,$1").byteAt(256), 246);
        Kit.due("with Z itself", Kit.with(" PUT rB,1").byteAt(256), 247);
    }

    private static String away(String line, long far) {
        return line.replace("?", far < 0 ? "@" + far : "@+" + far);
    }

    /** A place may be as many instructions back, and one less on. */
    private static void reach(String line, int at, long reach) {
        for (long far : new long[] {-reach, -1, 0, 1, reach - 1}) {
            LittleMix mix = Kit.with(" LOC " + at, away(line, 4 * far));
            Kit.due(line + " by " + far, mix.byteAt(at) & 1, far < 0 ? 1 : 0);
            Kit.due(line + " by " + far, Kit.bytes(mix, at, 4) & reach - 1, far & reach - 1);
        }
        Kit.ill(1, " LOC " + at, away(line, -4 * reach - 4));
        Kit.ill(1, " LOC " + at, away(line, 4 * reach));
        for (int odd = 1; odd < 4; odd++) {
            Kit.ill(1, " LOC " + at, line.replace("?", "@+" + odd));
            Kit.ill(1, " LOC " + at, line.replace("?", "@-" + odd));
        }
        for (String far : new String[] {"#7ffffffffffffffc", "#8000000000000000", "#100000000", "#ffffffff00000000", "#3fffffffc0000000"}) {
            Kit.ill(1, " LOC " + at, line.replace("?", far));
        }
        Kit.ill(1, " LOC " + at, line.replace("?", "$4"));
    }

    private static void placesOf() {
        Kit.says("a place must be a multiple of 4, as far away as can be told");
        for (int at : new int[] {0, 256, 4092}) {
            for (String name : namesOf(AssembleTest.BRANCHES)) {
                reach(" " + name + " $1,?", at, 1 << 16);
            }
            reach(" JMP ?", at, 1 << 24);
        }
        LittleMix mix = Kit.with(" LOC 1", "a BYTE 1", " JMP b", "b SWYM", " LOC 258", " JMP 260");
        Kit.due("the line's own place is the one gone up to", Kit.bytes(mix, 260, 4), 0xf0000000L);
        Kit.ill(2, " LOC 1", "a BYTE 1", " JMP a");
    }

    private static void howMany() {
        Kit.says("operands that are too few or many");
        String[] lines = {"ADD $1,$2,3", "LDO $1,$2,$3", "CSZ $1,$2,3", "BZ $1,@", "PBEV $1,@", "JMP @", "PUSHJ $1,@", "GETA $1,@", "SETL $1,2", "ANDNL $1,2", "PUT rA,1", "GET $1,rA", "POP 1,2",
            "STCO 1,$2,3", "IS 1", "LOC 300"};
        for (String line : lines) {
            Kit.ill(-1, " SWYM", " " + line);
            Kit.ill(1, " SWYM", " " + line + ",0");
            int cut = line.lastIndexOf(line.indexOf(',') < 0 ? ' ' : ',');
            Kit.ill(1, " SWYM", " " + line.substring(0, cut));
            Kit.ill(1, " SWYM", " " + line.substring(0, line.indexOf(' ')));
        }
        for (String name : new String[] {"NEG", "NEGU"}) {
            Kit.ill(0, " " + name);
            Kit.ill(0, " " + name + " $1");
            Kit.ill(-1, " " + name + " $1,$2");
            Kit.ill(-1, " " + name + " $1,2,$3");
            Kit.ill(0, " " + name + " $1,2,$3,0");
        }
        for (String name : new String[] {"BYTE", "WYDE", "TETRA", "OCTA"}) {
            Kit.ill(0, " " + name);
            Kit.ill(-1, " " + name + " 1");
            Kit.ill(-1, " " + name + " 1" + ",2".repeat(100));
        }
    }

    private static void registersAndNumbers() {
        Kit.says("A register operand must be one, a number not");
        String[] lines = {"ADD $1,$2,3", "NEG $1,2,3", "STCO 1,$2,3", "BZ $1,4", "JMP 4", "PUSHJ $1,4", "GETA $1,4", "SETL $1,2", "PUT 1,2", "GET $1,4", "POP 1,2", "TRAP 1,2,3", "BYTE 1,2", "OCTA 1,2"};
        for (String line : lines) {
            String name = line.substring(0, line.indexOf(' ') + 1);
            String[] operands = line.substring(name.length()).split(",");
            boolean either = name.startsWith("ADD") || name.startsWith("NEG") || name.startsWith("STCO") || name.startsWith("PUT");
            for (int i = 0; i < operands.length; i++) {
                String[] others = operands.clone();
                others[i] = operands[i].startsWith("$") ? operands[i].substring(1) : "$" + operands[i];
                boolean good = either && i == operands.length - 1;
                Kit.ill(good ? -1 : 1, " SWYM", " " + name + String.join(",", others));
            }
            Kit.ill(-1, " SWYM", " " + line);
        }
    }

    private static void names() {
        Kit.says("NAMES and conditions are great letters and digits; labels are told apart by small and great letters, and may be such a name");
        List<String> all = namesOf(AssembleTest.PAIRS + ";" + AssembleTest.BRANCHES + ";224 " + AssembleTest.WIDE + ";0 TRAP RESUME SWYM TRIP JMP PUT GET POP NEG NEGU STCO IS LOC BYTE OCTA");
        for (String name : all) {
            Kit.ill(1, " SWYM 1", " " + name.toLowerCase() + " 1");
            Kit.ill(1, " SWYM 1", " " + name.substring(0, name.length() - 1) + name.substring(name.length() - 1).toLowerCase() + " 1");
            Kit.ill(1, " ADD", " " + name + "Q 1");
            if (Character.isLetter(name.charAt(0))) {
                LittleMix mix = Kit.with(name + " BYTE 1", name.toLowerCase() + " BYTE " + name + "-255");
                Kit.due("a label " + name, mix.label(0), 256);
                Kit.due("a label " + name.toLowerCase(), mix.label(1), 257);
                Kit.due("its number", mix.byteAt(257), 1);
            }
        }
        for (String none : new String[] {"LDOU", "STOU", "LDHT", "STHT", "GO", "PUSHGO", "SET", "FADD", "BNEV", "CSE", "ZS", "B", "PB", "CS", "SAVE", "SYNC", "PREGO", "CSWAP", "GREG", "1ADDU", "32ADDU", "ADDUS", "INC"}) {
            Kit.ill(1, " ADD", " " + none + " $1,$2,3");
        }
    }

    private static final long[] AROUND_ZERO = {-2, -1, 0, 1, 2, Long.MIN_VALUE, Long.MIN_VALUE + 1, Long.MAX_VALUE, Long.MAX_VALUE - 1};

    private static void conditional() {
        Kit.says("x becomes z if y is so; else ZS: 0");
        for (String condition : CONDITIONS) {
            for (long y : AROUND_ZERO) {
                boolean so = ArithmeticTest.isSo(condition, y);
                LittleMix mix = Kit.loaded(new long[] {y, 5, 9, 9}, " CS" + condition + " $2,$0,$1", " ZS" + condition + " $3,$0,$1");
                mix.run(2);
                Kit.due("CS" + condition + " of " + y, mix.register(2), so ? 5 : 9);
                Kit.due("ZS" + condition + " of " + y, mix.register(3), so ? 5 : 0);
            }
        }
    }

    private static void branches() {
        Kit.says("if x is so, on there; k 0 .. 7: y below, is, above 0, odd, and their contraries");
        for (String condition : CONDITIONS) {
            for (long x : AROUND_ZERO) {
                boolean so = ArithmeticTest.isSo(condition, x);
                for (String kind : new String[] {"B", "PB"}) {
                    LittleMix mix = Kit.loaded(new long[] {x}, " " + kind + condition + " $0,2000");
                    Kit.due("run", mix.run(1), 1);
                    Kit.due(kind + condition + " of " + x, mix.place(), so ? 2000 : 268);
                }
            }
        }
    }

    private static void farPlaces() {
        Kit.says("YZ times 4 from here; the second number: back from 65536; JMP (XYZ, three bytes, likewise)");
        for (int at : new int[] {0, 256, 4088}) {
            for (int yz : new int[] {0, 1, 0x7fff, 0x8000, 0xffff}) {
                for (int op : new int[] {66, 82, 242, 244}) {
                    goes(at, op, yz, at + 4L * yz);
                    goes(at, op + 1, yz, at + 4L * (yz - 65536));
                }
            }
            for (int xyz : new int[] {0, 1, 0xffff, 0x10000, 0x7fffff, 0x800000, 0xffffff}) {
                goes(at, 240, xyz, at + 4L * xyz);
                goes(at, 241, xyz, at + 4L * (xyz - 16777216));
            }
        }
    }

    private static void goes(int at, int op, int rest, long want) {
        LittleMix mix = Kit.with(" JMP " + at);
        if (at == 256) {
            mix.store(256, op << 24 | rest, 0);
        } else {
            mix.store(at, op << 24 | rest, 0);
            mix.run(1);
        }
        Kit.due("run", mix.run(1), 1);
        boolean gets = op == 244 || op == 245;
        Kit.due("op " + op + " by " + rest + " at " + at, gets ? mix.register(0) : mix.place(), want);
        Kit.due("op " + op + " next", gets ? mix.place() : op == 242 || op == 243 ? mix.special(4) : at + 4, at + 4);
    }

    private static void loads() {
        Kit.says("x becomes the 1, 2, 4, 8 bytes at y + z (the place goes down to a multiple of how many), with a sign, U without");
        String[] names = {"LDB", "LDW", "LDT", "LDO"};
        for (int i = 0; i < names.length; i++) {
            int size = 1 << i;
            long top = 1L << 8 * size - 1;
            for (long value : new long[] {0, 1, top - 1, top, top + 1, -1}) {
                for (int z = 0; z < 16; z++) {
                    LittleMix mix = Kit.loaded(new long[] {2096}, " " + names[i] + " $1,$0," + z, i < 3 ? " " + names[i] + "U $2,$0," + z : " SWYM");
                    long bits = value & -1L >>> 64 - 8 * size;
                    int place = z / size * size;
                    Kit.store(mix, 2096 + place / 8 * 8, bits << 64 - 8 * size - 8 * (place % 8));
                    Kit.due("run", mix.run(2), 2);
                    Kit.due(names[i] + " of " + value + " at " + z, mix.register(1), bits >= top && i < 3 ? bits - 2 * top : bits);
                    Kit.due(names[i] + "U of " + value + " at " + z, mix.register(2), i < 3 ? bits : 0);
                }
            }
        }
    }

    private static void stores() {
        Kit.says("STB .. STO: they become x's lowest ones");
        String[] names = {"STB", "STBU", "STW", "STWU", "STT", "STTU", "STO"};
        for (int i = 0; i < names.length; i++) {
            int size = 1 << i / 2;
            for (int z = 0; z < 16; z++) {
                LittleMix mix = Kit.loaded(new long[] {2096, 0x0123456789abcdefL}, " " + names[i] + " $1,$0," + z);
                Kit.store(mix, 2096, -1);
                Kit.store(mix, 2104, -1);
                Kit.due("run", mix.run(1), 1);
                int place = z / size * size;
                for (int k = 0; k < 16; k++) {
                    boolean stored = k >= place && k < place + size;
                    Kit.due(names[i] + " at " + z + ", byte " + k, mix.byteAt(2096 + k), stored ? 0x0123456789abcdefL >> 8 * (place + size - 1 - k) & 255 : 255);
                }
            }
        }
    }

    private static void constantStores() {
        Kit.says("180: STCO: the 8 bytes become X itself");
        for (int x : new int[] {0, 1, 127, 128, 255}) {
            for (int z : new int[] {0, 7, 8, 15}) {
                LittleMix mix = Kit.loaded(new long[] {2096}, " STCO " + x + ",$0," + z);
                Kit.store(mix, 2096, -1);
                Kit.store(mix, 2104, -1);
                Kit.due("run", mix.run(1), 1);
                Kit.due("STCO " + x + " at " + z, Kit.bytes(mix, 2096, 8), z < 8 ? x : -1);
                Kit.due("STCO " + x + " at " + z, Kit.bytes(mix, 2104, 8), z < 8 ? -1 : x);
            }
        }
    }

    private static void wideOnes() {
        Kit.says("x becomes YZ times 2 to the 48, 32, 16, 0; or x and that, added; or'ed; and'ed with its contrary");
        String[] ends = {"H", "MH", "ML", "L"};
        for (int i = 0; i < ends.length; i++) {
            for (long yz : new long[] {0, 1, 0x7fff, 0x8000, 65535}) {
                for (long x : new long[] {0, 1, -1, Long.MIN_VALUE, Long.MAX_VALUE}) {
                    String rest = ends[i] + " $?," + yz;
                    LittleMix mix = Kit.loaded(new long[] {x, x, x, x}, " SET" + rest.replace("?", "0"), " INC" + rest.replace("?", "1"), " OR" + rest.replace("?", "2"), " ANDN" + rest.replace("?", "3"));
                    Kit.due("run", mix.run(4), 4);
                    long wide = yz << 48 - 16 * i;
                    Kit.due("SET" + rest, mix.register(0), wide);
                    Kit.due("INC" + rest, mix.register(1), x + wide);
                    Kit.due("OR" + rest, mix.register(2), x | wide);
                    Kit.due("ANDN" + rest, mix.register(3), x & ~wide);
                    Kit.due("no event", mix.special(21), 0);
                }
            }
        }
    }
}
