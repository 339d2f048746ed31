import java.util.Arrays;
import java.util.LinkedHashMap;
import java.util.Map;
import java.util.function.Supplier;

/**
 * All that can be asked of an object, for tests of what stays. An object answers only 512 calls,
 * so a few hundred questions each go to a new object that came about in the same way.
 */
final class Snapshot {
    static final String STOPPED = "stopped";
    static final String ILL_AT = "illAt";
    static final String TAPE = "tape";

    private static final int AT_ONCE = 256;
    private static final int POP = 248 << 24;
    private static final int MOST_POPS = 2;

    private Snapshot() {
    }

    private static Map<String, Long> of(Supplier<LittleMix> way, boolean withStack) {
        Map<String, Long> answers = new LinkedHashMap<>();
        machine(way.get(), answers);
        specials(way.get(), answers);
        for (int from = 0; from < 4096; from += AT_ONCE) {
            LittleMix mix = way.get();
            for (int place = from; place < from + AT_ONCE; place++) {
                answers.put("byteAt(" + place + ")", (long) mix.byteAt(place));
            }
        }
        answers.put(TAPE, tape(way));
        source(way, answers);
        if (withStack) {
            stack(way, answers);
        }
        return answers;
    }

    private static void machine(LittleMix mix, Map<String, Long> answers) {
        for (int k = 0; k < 256; k++) {
            answers.put("register(" + k + ")", mix.register(k));
        }
    }

    private static void specials(LittleMix mix, Map<String, Long> answers) {
        for (int k = 0; k < 32; k++) {
            answers.put("special(" + k + ")", mix.special(k));
        }
        for (int k = 0; k <= 40; k++) {
            answers.put("label(" + k + ")", mix.label(k));
        }
        for (int what = 0; what < 3; what++) {
            answers.put("taken(" + what + ")", (long) mix.taken(what));
        }
        answers.put("place", mix.place());
        answers.put(STOPPED, (long) mix.stopped());
        answers.put(ILL_AT, (long) mix.illAt());
    }

    /** How many bytes the tape holds: as many times twenty as aren't refused, for an object answers NONE to more. */
    private static long tape(Supplier<LittleMix> way) {
        LittleMix mix = way.get();
        int length = 1600;
        while (length > 0 && mix.assemble(length) == LittleMix.NONE) {
            length -= 20;
        }
        return length;
    }

    /** What the tape holds, as far as it is told when it becomes a SOURCE. */
    private static void source(Supplier<LittleMix> way, Map<String, Long> answers) {
        LittleMix mix = way.get();
        answers.put("assemble", (long) mix.assemble((int) tape(way)));
        answers.put("then illAt", (long) mix.illAt());
        for (int k = 0; k <= 40; k++) {
            answers.put("then label(" + k + ")", mix.label(k));
        }
        for (int place = 256; place < 512; place++) {
            answers.put("then byteAt(" + place + ")", (long) mix.byteAt(place));
        }
    }

    /** What the stack holds: it comes into the registers by POP 0,0, put where the machine goes on and at rJ. */
    private static void stack(Supplier<LittleMix> way, Map<String, Long> answers) {
        for (int pops = 1; pops <= MOST_POPS; pops++) {
            LittleMix mix = way.get();
            mix.store((int) mix.place() & -8, POP, POP);
            mix.store((int) mix.special(4) & -8, POP, POP);
            answers.put("run of " + pops + " POP", (long) mix.run(pops));
            answers.put("then rL behind " + pops, mix.special(20));
            for (int k = 0; k < AT_ONCE; k++) {
                answers.put("then register(" + k + ") behind " + pops, mix.register(k));
            }
        }
    }

    /** All is the same both ways, but for what is left out; a machine that has stopped for good never tells its stack. */
    static void same(String what, Supplier<LittleMix> one, Supplier<LittleMix> other, String... leftOut) {
        boolean withStack = !Arrays.asList(leftOut).contains(STOPPED);
        Map<String, Long> before = of(one, withStack);
        Map<String, Long> after = of(other, withStack);
        for (String out : leftOut) {
            before.remove(out);
            after.remove(out);
        }
        for (Map.Entry<String, Long> answer : before.entrySet()) {
            Kit.due(what + ": " + answer.getKey(), after.get(answer.getKey()), answer.getValue());
        }
    }
}
