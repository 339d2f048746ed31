import java.util.ArrayList;
import java.util.List;
import java.util.Random;

/** All promises at once: sources and programs drawn by lot (always the same ones), held against Model. */
public final class ModelTest {
    private static final int SOURCES = 6000;
    private static final int PROGRAMS = 3000;
    private static final String[] LABELS = {"a", "b", "c", "A", "a1", "xyz", "abcdefghijkl", "ADD", "rC", "n", "m", "k", "big", "reg"};
    private static final String[] ODD_LABELS = {"abcdefghijklm", "rA", "rZ", "a_", "9a", "a\u00e4", "*"};
    private static final String[] NUMBERS = {"0", "1", "2", "4", "8", "254", "255", "256", "257", "65535", "65536", "4095", "4096", "4097", "999999999999999999", "#0", "#ff", "#100", "#FFFF", "#ffffffffffffffff",
        "#7fffffffffffffff", "#8000000000000000", "'a'", "' '", "','", "'''", "@", "rA", "rG", "rZ"};
    private static final String[] ODD_OPERANDS = {"", "1000000000000000000", "#", "#11111111111111111", "''", "'ab'", "$", "$256", "$rA", "$@", "1+", "+1", "--1", "1,", "abcdefghijklm", "1 2", "x.", "$#100"};
    private static final List<String> NAMES = new ArrayList<>(Model.NUMBERS.keySet());
    private static final long[] VALUES = {0, 1, 2, 3, 5, 63, 64, 127, 128, 255, 256, 2047, 2048, 3000, 4087, 4095, 4096, 32767, 32768, 65536, Integer.MAX_VALUE, 1L << 31, 1L << 32, Long.MAX_VALUE, Long.MIN_VALUE, -1, -2,
        -128, -129, -32769, 0xff00, 0x4000, 0x8000, 0xc000};

    private static final String SIGNS = " \n$#'@+-,,  rAa1n9fFgG*;\0\u00ff";

    private static final Random lot = new Random(20261115);

    public static void main(String[] args) {
        int good = 0;
        for (int i = 0; i < SOURCES; i++) {
            good += source(i);
        }
        int steps = 0;
        for (int i = 0; i < PROGRAMS; i++) {
            steps += program(i);
        }
        System.out.println(good + " of " + SOURCES + " sources were good, " + steps + " instructions were executed in " + PROGRAMS + " programs");
        Kit.due("some sources are good", good > SOURCES / 10, true);
        Kit.due("some are not", good < SOURCES, true);
        Kit.due("programs do run", steps > 10 * PROGRAMS, true);
        Kit.end();
    }

    private static boolean chance(int percent) {
        return lot.nextInt(100) < percent;
    }

    private static String any(String[] of) {
        return of[lot.nextInt(of.length)];
    }

    // sources

    private static int source(int number) {
        // a third is all right but for accidents, so that there are good ones, and lines that are ILL late
        int odd = number % 3;
        StringBuilder text = new StringBuilder("n IS 5\nreg IS $9\n");
        int lines = 1 + lot.nextInt(number % 10 == 0 ? 45 : 12);
        for (int i = 0; i < lines && text.length() < 1500; i++) {
            text.append(line(odd)).append('\n');
        }
        if (chance(odd)) {
            text.setCharAt(lot.nextInt(text.length()), (char) lot.nextInt(256));
        }
        if (number % 10 == 3) {
            garble(text);
        }
        if (chance(20)) {
            text.setLength(text.length() - 1);
        }
        String source = text.substring(0, Math.min(text.length(), 1600));
        LittleMix mix = new LittleMix();
        Model model = new Model();
        int want = model.assemble(source);
        String what = "source " + number + " " + source.replace('\n', '/');
        Kit.due(what, mix.assemble(Kit.feed(mix, source)), want);
        Kit.due(what + ": illAt", mix.illAt(), model.illAt);
        for (int k = 0; k <= model.told.size(); k++) {
            Kit.due(what + ": label " + k, mix.label(k), k < model.told.size() ? model.told.get(k) : LittleMix.NONE);
        }
        int asked = 0;
        for (int place = 0; place < 4096 && asked < 300; place++) {
            if (model.byteAt(place) != 0 || lot.nextInt(100) == 0) {
                Kit.due(what + ": byte " + place, mix.byteAt(place), model.byteAt(place));
                asked++;
            }
        }
        compareMachines(what, mix, model, number % 7 == 0 ? lot.nextInt(60) : 0);
        return want == 0 ? 1 : 0;
    }

    private static void garble(StringBuilder text) {
        for (int i = 1 + lot.nextInt(5); i > 0; i--) {
            char c = SIGNS.charAt(lot.nextInt(SIGNS.length()));
            int at = lot.nextInt(text.length());
            if (chance(40)) {
                text.setCharAt(at, c);
            } else if (chance(50)) {
                text.insert(at, c);
            } else {
                text.deleteCharAt(at);
            }
        }
    }

    private static String line(int odd) {
        if (chance(4)) {
            return any(new String[] {"", " ", "* a remark", "   ", "9 x", "\ta"});
        }
        String label = chance(25) ? any(LABELS) + (chance(70) ? lot.nextInt(100) : "") : "";
        if (chance(odd)) {
            label = any(ODD_LABELS);
        }
        String blanks = " ".repeat(chance(90) ? 1 : 3);
        if (chance(30)) {
            return label + blanks + directive(odd);
        }
        String name = NAMES.get(lot.nextInt(NAMES.size()));
        if (chance(odd)) {
            name = any(new String[] {"LDOU", "SET", "add", "Q", name + "U", name.substring(1)});
        }
        String operands = operands(name, odd);
        return label + blanks + name + (operands.isEmpty() ? "" : " " + operands) + (chance(10) ? " and more, of course" : "");
    }

    private static String directive(int odd) {
        switch (lot.nextInt(8)) {
            case 0:
                return "IS " + (chance(60) ? sum(odd) : register(odd));
            case 1:
                return "LOC " + (chance(60) ? "" + lot.nextInt(chance(95) ? 1500 : 4200) : chance(50) ? "@+" + lot.nextInt(20) : sum(odd));
            default:
                String name = any(new String[] {"BYTE", "WYDE", "TETRA", "OCTA"});
                StringBuilder text = new StringBuilder(name + " " + sum(odd));
                for (int i = lot.nextInt(4); i > 0; i--) {
                    text.append(',').append(sum(odd));
                }
                return text.toString();
        }
    }

    private static String term() {
        if (chance(15)) {
            return any(new String[] {"n", "n", "a", "b", "reg", "nowhere", "a1", "big"});
        }
        return chance(50) ? any(NUMBERS) : "" + lot.nextInt(300);
    }

    private static String sum(int odd) {
        if (chance(odd)) {
            return any(ODD_OPERANDS);
        }
        StringBuilder text = new StringBuilder(chance(10) ? "-" : "").append(chance(90) ? any(NUMBERS) : term());
        while (chance(15)) {
            text.append(chance(50) ? '+' : '-').append(chance(70) ? "" + lot.nextInt(20) : term());
        }
        return text.toString();
    }

    private static String register(int odd) {
        if (chance(odd)) {
            return sum(odd);
        }
        String text = chance(80) ? "$" + lot.nextInt(256) : chance(50) ? "$n" : "reg";
        return chance(90) ? text : text + (chance(50) ? "+" : "-") + lot.nextInt(5);
    }

    private static String small(int odd) {
        return chance(5 * odd) ? sum(odd) : "" + lot.nextInt(256);
    }

    private static String place(int odd) {
        if (chance(5 * odd)) {
            return sum(odd);
        }
        return chance(50) ? "@" + (chance(50) ? "+" : "-") + 4 * lot.nextInt(70000) : "" + 4 * lot.nextInt(1024);
    }

    private static String operands(String name, int odd) {
        List<String> all = new ArrayList<>();
        if (name.matches("(B|PB)(N|Z|P|OD|NN|NZ|NP|EV)|PUSHJ|GETA")) {
            all.add(register(odd));
            all.add(place(odd));
        } else if (name.equals("JMP")) {
            all.add(place(odd));
        } else if (name.matches("SET.+|INC.+|OR(H|MH|ML|L)|ANDN.+")) {
            all.add(register(odd));
            all.add("" + lot.nextInt(65536));
        } else if (name.equals("POP")) {
            all.add(small(odd));
            all.add(small(odd));
        } else if (name.matches("TRAP|TRIP|SWYM|RESUME")) {
            for (int i = lot.nextInt(4); i > 0; i--) {
                all.add(small(odd));
            }
        } else if (name.equals("PUT") || name.equals("GET")) {
            String special = any(Model.SPECIALS.keySet().toArray(new String[0]));
            all.add(name.equals("PUT") ? special : register(odd));
            all.add(name.equals("PUT") ? small(odd) : special);
        } else {
            all.add(name.equals("STCO") ? small(odd) : register(odd));
            if (!name.startsWith("NEG")) {
                all.add(register(odd));
            } else if (chance(50)) {
                all.add(small(odd));
            }
            all.add(chance(50) ? small(odd) : register(odd));
        }
        if (chance(odd)) {
            all.add(sum(odd));
        }
        if (chance(odd) && !all.isEmpty()) {
            all.remove(lot.nextInt(all.size()));
        }
        return String.join(",", all);
    }

    // programs

    private static int program(int number) {
        LittleMix mix = new LittleMix();
        Model model = new Model();
        store(mix, model, 0, 0xfe00001afe00001bL);
        store(mix, model, 8, 0xf9000000f9000000L);
        store(mix, model, 16, 0xf9000000fd000000L);
        store(mix, model, 32, number % 2 == 0 ? 0xf9000000fd000000L : 0xfe010018f9000000L);
        for (int k = 0; k < 8; k++) {
            store(mix, model, 2048 + 8 * k, lot.nextInt(4) == 0 ? lot.nextLong() : VALUES[lot.nextInt(VALUES.length)]);
        }
        int[] words = words(number);
        for (int i = 0; i < words.length; i += 2) {
            store(mix, model, 256 + 4 * i, (long) words[i] << 32 | words[i + 1] & 0xffffffffL);
        }
        int steps = 0;
        for (int i = 0; i < 5; i++) {
            steps += compareMachines("program " + number, mix, model, i < 4 ? lot.nextInt(20) : 300);
        }
        for (int asked = 0; asked < 40; asked++) {
            int at = lot.nextInt(2) == 0 ? 2040 + lot.nextInt(80) : lot.nextInt(4096);
            Kit.due("program " + number + ": byte " + at, mix.byteAt(at), model.byteAt(at));
        }
        return steps;
    }

    private static void store(LittleMix mix, Model model, int place, long value) {
        Kit.store(mix, place, value);
        model.store(place, (int) (value >>> 32), (int) value);
    }

    /** First $0 .. $7 are loaded, by way of $255; in some rG is lower, in some events are ENABLED. */
    private static int[] words(int number) {
        int[] words = new int[70];
        for (int i = 0; i < words.length; i++) {
            if (i == 0) {
                words[i] = 0xe3ff0800;
            } else if (i <= 8) {
                words[i] = 0x8d00ff00 | i - 1 << 16 | 8 * (i - 1);
            } else if (i == 9 && number % 3 == 0) {
                words[i] = 0xf7130000 | 32 + lot.nextInt(12);
            } else if (i == 10 && number % 4 == 0) {
                words[i] = 0xf6150000 | lot.nextInt(8);
            } else {
                words[i] = number % 50 == 0 ? lot.nextInt() : instruction(number % 5 == 0 ? 256 : number % 5 == 1 ? 40 : 10);
            }
        }
        return words;
    }

    private static int instruction(int registers) {
        String name = NAMES.get(lot.nextInt(NAMES.size()));
        if (name.equals("TRAP") || name.equals("RESUME") && chance(80)) {
            name = "ADD";
        }
        int op = Model.NUMBERS.get(name);
        int x = lot.nextInt(registers);
        int y = lot.nextInt(chance(80) ? 10 : registers);
        int z = lot.nextInt(chance(80) ? 10 : registers);
        boolean both = !name.matches("SET.+|INC.+|OR(H|MH|ML|L)|ANDN.+|GET|POP|RESUME|SWYM|TRIP");
        if (name.matches("LD.+|ST.+")) {
            boolean wild = chance(8);
            return op + (wild ? lot.nextInt(2) : 1) << 24 | x << 16 | (wild ? y : 255) << 8 | lot.nextInt(wild ? 256 : 64);
        }
        if (name.matches("(B|PB)(N|Z|P|OD|NN|NZ|NP|EV)|PUSHJ|GETA")) {
            boolean back = chance(5);
            return op + (back ? 1 : 0) << 24 | x << 16 | (back ? 65536 - 1 - lot.nextInt(4) : 1 + lot.nextInt(4));
        }
        if (name.equals("JMP")) {
            return op << 24 | 1 + lot.nextInt(3);
        }
        if (name.equals("POP")) {
            return op << 24 | lot.nextInt(12) << 16 | (chance(80) ? lot.nextInt(3) : 3 + lot.nextInt(20));
        }
        if (name.equals("PUT") || name.equals("GET")) {
            Integer[] all = Model.SPECIALS.values().toArray(new Integer[0]);
            int special = chance(98) ? all[lot.nextInt(all.length)] : lot.nextInt(256);
            boolean put = name.equals("PUT");
            return op + (put ? lot.nextInt(2) : 0) << 24 | (put ? special : x) << 16 | (put ? chance(50) ? z : lot.nextInt(256) : special);
        }
        int second = both ? lot.nextInt(2) : 0;
        return op + second << 24 | x << 16 | y << 8 | (second == 1 ? lot.nextInt(256) : z);
    }

    /** Runs both; how many instructions were executed. */
    private static int compareMachines(String what, LittleMix mix, Model model, int n) {
        int steps = model.run(n);
        Kit.due(what + ": run " + n, mix.run(n), steps);
        Kit.due(what + ": stopped", mix.stopped(), model.stopped);
        Kit.due(what + ": place", mix.place(), model.place);
        for (int k : new int[] {0, 1, 3, 4, 5, 6, 19, 20, 21, 24, 25, 26, 27}) {
            Kit.due(what + ": special " + k, mix.special(k), model.special(k));
        }
        for (int k = 0; k < 12; k++) {
            Kit.due(what + ": register " + k, mix.register(k), model.register(k));
        }
        for (int i = 0; i < 8; i++) {
            int k = i == 0 ? 255 : lot.nextInt(i < 4 ? 50 : 256);
            Kit.due(what + ": register " + k, mix.register(k), model.register(k));
        }
        for (int k = 0; k < 3; k++) {
            Kit.due(what + ": taken " + k, mix.taken(k), model.taken(k));
        }
        return steps;
    }
}
