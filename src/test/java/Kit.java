import java.util.ArrayList;
import java.util.List;

/** What the tests share: texts for the tape, and the count of wrong answers. */
final class Kit {
    private static int wrong = 0;
    private static int asked = 0;
    private static String sentence = "";

    private Kit() {
    }

    /** The document's words by which the answers from here on are due; they are told with a wrong one. */
    static void says(String words) {
        sentence = "\"" + words + "\": ";
    }

    static void due(String what, long got, long want) {
        asked++;
        if (got != want) {
            wrong++;
            System.out.println(sentence + what + " answered " + got + ", due is " + want);
        }
    }

    static void due(String what, boolean got, boolean want) {
        due(what, got ? 1 : 0, want ? 1 : 0);
    }

    static void end() {
        System.out.println(asked + " answers, " + wrong + " of them wrong");
        System.exit(wrong == 0 && asked > 0 ? 0 : 1);
    }

    /** Feeds the text, filled up with bytes 0; how many bytes the text has. */
    static int feed(LittleMix mix, String text) {
        for (int i = 0; i < text.length(); i += 20) {
            boolean taken = mix.feed(four(text, i), four(text, i + 4), four(text, i + 8), four(text, i + 12), four(text, i + 16));
            due("feeding " + text, taken, true);
        }
        return text.length();
    }

    private static int four(String text, int from) {
        int number = 0;
        for (int i = from; i < from + 4; i++) {
            number = number << 8 | (i < text.length() ? text.charAt(i) & 255 : 0);
        }
        return number;
    }

    static int assemble(LittleMix mix, String... lines) {
        return mix.assemble(feed(mix, String.join("\n", lines)));
    }

    /** A new object with a source that must be good. */
    static LittleMix with(String... lines) {
        LittleMix mix = new LittleMix();
        due("assembling " + String.join("/", lines), assemble(mix, lines), 0);
        return mix;
    }

    /** A new object whose source has run until it stopped. */
    static LittleMix ran(String... lines) {
        LittleMix mix = with(lines);
        mix.run(5000);
        return mix;
    }

    /**
     * A new object that is about to execute the code, with the values in $0, $1 and so on.
     * They come from 2048 on, by way of $255, for that is GLOBAL and doesn't raise rL.
     */
    static LittleMix loaded(long[] values, String... code) {
        List<String> lines = new ArrayList<>();
        lines.add(" SETL $255,2048");
        for (int k = 0; k < values.length; k++) {
            lines.add(" LDO $" + k + ",$255," + 8 * k);
        }
        lines.addAll(List.of(code));
        LittleMix mix = with(lines.toArray(new String[0]));
        for (int k = 0; k < values.length; k++) {
            store(mix, 2048 + 8 * k, values[k]);
        }
        due("loading", mix.run(1 + values.length), 1 + values.length);
        return mix;
    }

    static void store(LittleMix mix, int place, long value) {
        due("store(" + place + ")", mix.store(place, (int) (value >>> 32), (int) value), true);
    }

    static long bytes(LittleMix mix, int place, int size) {
        long value = 0;
        for (int i = 0; i < size; i++) {
            value = value << 8 | mix.byteAt(place + i);
        }
        return value;
    }

    /** The first ILL line of such a source; the answers of assemble and illAt must agree. */
    static void ill(int line, String... lines) {
        LittleMix mix = new LittleMix();
        String source = String.join("/", lines);
        due("assembling " + source, assemble(mix, lines), line < 0 ? 0 : 1);
        due("illAt of " + source, mix.illAt(), line);
    }
}
