import java.util.ArrayList;
import java.util.List;
import java.util.function.Supplier;

/** The boundary cases of ILL, of assemble's answers (promise 3), of illAt (4) and of label (5), sentence by sentence. */
public final class IllEdgesTest {
    /** Each is ILL for itself, behind the lines of {@link #prologue}. */
    private static final String[] SEEN_FIRST = {"a% SWYM", "abcdefghijklm SWYM", "alone", " NIX", " swym", " BYTE 1+", " BYTE 1,", " ADD $256,$1,1", " BYTE 1234567890123456789",
        "known SWYM", "Known9 IS 1", "rA SWYM", "rZ IS 1", "x IS nowhere", "x IS later", "x IS x", "x IS $255+1", "x IS -reg", " IS nowhere", " LOC nowhere", " LOC later", " LOC 4097", " LOC -1",
        " LOC reg", "x LOC x", " OCTA 1,2,3,4,5,6,7,8,9"};
    private static final String[] SEEN_THEN = {" ADD", " ADD $1,$1", " ADD $1,$1,1,1", " BYTE", " OCTA 1,nowhere", " BYTE reg", " JMP 2", " JMP reg", " SETL $1,65536", " SETL 1,1", " POP 1",
        " TRAP 1,1,1,1", " TRAP 256", " PUT 2,1", " GET $1,7", " ADD $255+1,$1,1", " ADD 1+$1,$1,1", " ADD $known,$known,$nowhere", " NEG $1,256,1", " STCO $1,$1,1", " IS", " LOC", " IS 1,2",
        " LOC 4000,4000"};

    public static void main(String[] args) {
        alone();
        order();
        labelsBefore();
        specialNames();
        beyond();
        tooManyOfEach();
        becomesMemory();
        illStays();
        answers();
        labels();
        Kit.end();
    }

    private static String[] prologue(String... lines) {
        List<String> all = new ArrayList<>(List.of("known IS 4", "Known9 IS 5", "reg IS $5", " LOC 4000"));
        all.addAll(List.of(lines));
        all.add(" LOC 300");
        all.add("later IS 8");
        return all.toArray(new String[0]);
    }

    private static void alone() {
        Kit.says("ILL is the first line (counted from 0) that .. ; if there is none, the first with operands that ..");
        for (String line : SEEN_FIRST) {
            String[] source = line.startsWith(" OCTA 1,2") ? prologue(" LOC 4032", line) : prologue(" SWYM", line);
            Kit.ill(5, source);
        }
        for (String line : SEEN_THEN) {
            Kit.ill(5, prologue(" SWYM", line));
        }
    }

    /** The last of SEEN_FIRST is ILL by where it stands, so it has no place in these pairs. */
    private static void order() {
        Kit.says("ILL is the first line that can't be read .. or goes beyond 4096; if there is none, the first with operands that are too few ..");
        for (int i = 0; i < SEEN_FIRST.length - 1; i++) {
            String first = SEEN_FIRST[i];
            String then = SEEN_THEN[i % SEEN_THEN.length];
            Kit.ill(6, prologue(" SWYM", then, first));
            Kit.ill(5, prologue(" SWYM", first, then));
            Kit.ill(7, prologue(then, then, " SWYM", first, first));
        }
        for (int i = 0; i < SEEN_THEN.length; i++) {
            Kit.ill(5, prologue(" SWYM", SEEN_THEN[i], SEEN_THEN[(i + 1) % SEEN_THEN.length]));
            Kit.ill(5, prologue(SEEN_THEN[i], " NIX", SEEN_THEN[(i + 1) % SEEN_THEN.length]));
        }
        Kit.ill(5, prologue(" ADD", " OCTA 1,2,3,4,5,6,7,8,9,10,11,12,13"));
        Kit.ill(4, prologue(" ADD", " OCTA 1,2,3,4,5,6,7,8,9,10,11"));
    }

    private static void labelsBefore() {
        Kit.says("has a label that was there before");
        Kit.ill(1, "a IS 1", "a IS 1");
        Kit.ill(2, "a SWYM", "b SWYM", "a LOC 300");
        Kit.ill(3, "a SWYM", "* a SWYM", " SWYM", "a SWYM");
        Kit.ill(-1, "a SWYM", "A SWYM", "aa SWYM", "a1 SWYM");
        LittleMix mix = Kit.with("a SWYM");
        Kit.due("in a source before", Kit.assemble(mix, "a SWYM"), 0);
        Kit.due("in an ILL one before", Kit.assemble(mix, "b SWYM", " NIX"), 1);
        Kit.due("in an ILL one before", Kit.assemble(mix, "b SWYM"), 0);
    }

    private static void specialNames() {
        Kit.says("or is the name of a SPECIAL register");
        for (char c = 'A'; c <= 'Z'; c++) {
            boolean special = "BDHJMRGLAWXYZ".indexOf(c) >= 0;
            Kit.ill(special ? 0 : -1, "r" + c + " IS 1");
            Kit.ill(special ? 0 : -1, "r" + c + " SWYM");
            Kit.ill(-1, "R" + c + " IS 1", "r" + Character.toLowerCase(c) + " IS 1", "r" + c + c + " IS 1", "x" + c + " IS 1");
        }
        Kit.ill(-1, "r IS 1", "A IS 2");
    }

    private static void beyond() {
        Kit.says("or goes beyond 4096");
        Kit.ill(-1, " LOC 4095", " BYTE 1", "x IS @", "y LOC @");
        Kit.ill(1, " LOC 4095", " BYTE 1,2");
        Kit.ill(1, " LOC 4096", " BYTE 1");
        Kit.ill(-1, " LOC 4090", " WYDE 1,2,3");
        Kit.ill(1, " LOC 4090", " WYDE 1,2,3,4");
        Kit.ill(-1, " LOC 4089", " TETRA 1");
        Kit.ill(1, " LOC 4089", " TETRA 1,2");
        Kit.ill(1, " LOC 4089", " OCTA 1");
        Kit.ill(-1, " LOC 4081", " OCTA 1");
        Kit.ill(-1, " LOC 4088", " SWYM", " SWYM");
        Kit.ill(3, " LOC 4088", " SWYM", " SWYM", " SWYM");
        Kit.ill(3, " LOC 4095", " BYTE 1", "", " BYTE 1", " LOC 0");
        Kit.ill(1, " LOC 4096", "x SWYM");
    }

    private static String[] many(int count, String line, String... others) {
        List<String> lines = new ArrayList<>();
        for (int i = 0; i < count; i++) {
            lines.add(line.replace("?", "l" + i));
        }
        lines.addAll(List.of(others));
        return lines.toArray(new String[0]);
    }

    private static void tooManyOfEach() {
        Kit.says("is one line or label too many");
        Kit.ill(40, many(40, "? IS 0", "x IS 0", " NIX"));
        Kit.ill(40, many(40, "? IS 0", " NIX", "x IS 0"));
        Kit.ill(160, many(160, " SWYM", " SWYM", " NIX"));
        Kit.ill(160, many(160, " SWYM", " NIX", " SWYM"));
        Kit.ill(160, many(159, " SWYM", " ADD", " SWYM"));
        Kit.ill(159, many(159, " SWYM", " ADD"));
    }

    /** An object whose memory, machine, labels and tape all differ from a new one's. */
    private static LittleMix busy() {
        LittleMix mix = Kit.with("a SETL $3,7", " SETL $255,2048", " STO $3,$255,8", " PUT rG,200", " SETL $220,5", " PUT rM,9", "c DIV $1,$2,0", " PUSHJ $2,@+4", " SETL $0,1", "b TRAP 0,0,0");
        Kit.store(mix, 4088, -1);
        mix.run(100);
        Kit.due("stopped", mix.stopped(), 5);
        return mix;
    }

    private static void becomesMemory() {
        Kit.says("A SOURCE that isn't ILL becomes the MEMORY, all else being 0; the machine is SET BACK");
        String[] source = {"x LOC 0", " BYTE 1", " LOC 4095", " BYTE 2", "y IS 3"};
        Snapshot.same("a source behind another", () -> Kit.with(source), () -> {
            LittleMix mix = busy();
            Kit.due("assemble", Kit.assemble(mix, source), 0);
            return mix;
        });
        Snapshot.same("an empty source behind another", LittleMix::new, () -> {
            LittleMix mix = busy();
            Kit.due("assemble", mix.assemble(0), 0);
            return mix;
        });
    }

    private static void illStays() {
        Kit.says("1 if it is ILL (MEMORY, and the machine, stay)");
        String[][] sources = {{"x IS 1", " LOC 300", " OCTA -1", " NIX"}, {"x IS 1", " LOC 300", " OCTA -1", " OCTA nowhere"}, {" ADD"}, many(41, "? IS 1"), many(161, " BYTE 1")};
        for (String[] source : sources) {
            Supplier<LittleMix> after = () -> {
                LittleMix mix = busy();
                Kit.due("assemble", Kit.assemble(mix, source), 1);
                return mix;
            };
            Snapshot.same("behind an ILL source", IllEdgesTest::busy, after, Snapshot.ILL_AT);
        }
        LittleMix going = Kit.with(" SETL $1,1", " SETL $2,2", " TRAP 0");
        going.run(1);
        Kit.due("ILL", Kit.assemble(going, " NIX"), 1);
        Kit.due("it goes on", going.run(10), 1);
        Kit.due("$2", going.register(2), 2);
    }

    private static void answers() {
        Kit.says("The first ILL line of the latest SOURCE; NONE if it wasn't");
        LittleMix mix = new LittleMix();
        Kit.due("no SOURCE yet", mix.illAt(), LittleMix.NONE);
        Kit.due("ILL", Kit.assemble(mix, " NIX", " NIX"), 1);
        Kit.due("line 0", mix.illAt(), 0);
        Kit.due("ILL", Kit.assemble(mix, " SWYM", " NIX"), 1);
        Kit.due("line 1", mix.illAt(), 1);
        Kit.feed(mix, " SWYM");
        Kit.due("no new SOURCE", mix.illAt(), 1);
        Kit.due("refused", mix.assemble(21), LittleMix.NONE);
        Kit.due("refused", mix.assemble(-1), LittleMix.NONE);
        Kit.due("a refused one is no SOURCE", mix.illAt(), 1);
        Kit.due("good", mix.assemble(5), 0);
        Kit.due("a good one", mix.illAt(), LittleMix.NONE);
        Kit.due("ILL", Kit.assemble(mix, " ADD"), 1);
        Kit.due("line 0", mix.illAt(), 0);
        Kit.due("good", mix.assemble(0), 0);
        Kit.due("an empty one", mix.illAt(), LittleMix.NONE);
        String[] last = many(300, "*", " ADD");
        Kit.ill(300, last);
    }

    private static void labels() {
        Kit.says("What the k-th label (in order of the lines) of the latest SOURCE that wasn't ILL is; NONE if there is none");
        LittleMix mix = new LittleMix();
        Kit.due("no SOURCE yet", mix.label(0), LittleMix.NONE);
        Kit.due("good", Kit.assemble(mix, many(40, "? IS 7", " BYTE 1")), 0);
        Kit.due("the first", mix.label(0), 7);
        Kit.due("the last", mix.label(39), 7);
        for (int k : new int[] {-1, 40, 41, Integer.MAX_VALUE, Integer.MIN_VALUE}) {
            Kit.due("label(" + k + ")", mix.label(k), LittleMix.NONE);
        }
        Kit.due("ILL", Kit.assemble(mix, "a IS 1", "b IS 2", " ADD"), 1);
        Kit.due("the ILL one's is not told", mix.label(0), 7);
        Kit.due("the good one's last", mix.label(39), 7);
        Kit.due("good", Kit.assemble(mix, "a IS 1", "b IS $0", "c IS $255", "d IS #10000000000"), 0);
        long[] want = {1, 1L << 40, (1L << 40) + 255, 1L << 40, LittleMix.NONE};
        for (int k = 0; k < want.length; k++) {
            Kit.due("label " + k, mix.label(k), want[k]);
        }
        Kit.due("good", Kit.assemble(mix, " SWYM"), 0);
        Kit.due("without labels", mix.label(0), LittleMix.NONE);
    }
}
