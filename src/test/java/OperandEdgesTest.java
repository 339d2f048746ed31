/** The boundary cases of OPERANDS, and of the data and places that they make, sentence by sentence. */
public final class OperandEdgesTest {
    private static final String[] DATA = {"BYTE", "WYDE", "TETRA", "OCTA"};

    public static void main(String[] args) {
        decimals();
        hexadecimals();
        characters();
        here();
        signs();
        registerNumbers();
        registerLabels();
        labelValues();
        comingLater();
        registerSums();
        goingAround();
        is();
        loc();
        lowestBits();
        goingUp();
        places();
        firstLine();
        fortyLabels();
        linesWithData();
        Kit.end();
    }

    private static void value(String expression, long want) {
        LittleMix mix = Kit.with(" OCTA " + expression);
        Kit.due(expression, Kit.bytes(mix, 256, 8), want);
    }

    private static void unreadable(String expression) {
        Kit.ill(1, " ADD", " OCTA " + expression);
    }

    private static void decimals() {
        Kit.says("decimal numbers (at most 18 digits)");
        value("0", 0);
        value("9", 9);
        value("99999999999999999", 99999999999999999L);
        value("999999999999999999", 999999999999999999L);
        value("000000000000000001", 1);
        unreadable("1000000000000000000");
        unreadable("0000000000000000001");
        unreadable("1+1000000000000000000");
        value("999999999999999999+999999999999999999", 1999999999999999998L);
        for (String wrong : new String[] {"/", ":", "1/", "1:", "1.", "1_000", "1a", "0x1"}) {
            unreadable(wrong);
        }
    }

    private static void hexadecimals() {
        Kit.says("# and hexadecimal digits (1 to 16, great or small)");
        value("#0", 0);
        value("#f", 15);
        value("#F", 15);
        value("#a", 10);
        value("#A", 10);
        value("#9", 9);
        value("#0123456789abcdef", 0x0123456789abcdefL);
        value("#FEDCBA9876543210", 0xfedcba9876543210L);
        value("#ffffffffffffffff", -1);
        value("#000000000000000a", 10);
        unreadable("#");
        unreadable("#+1");
        unreadable("#0000000000000000a");
        unreadable("#fffffffffffffffff");
        for (char c : new char[] {'/', ':', '@', 'G', '`', 'g', '#', ';'}) {
            unreadable("#" + c);
            unreadable("#1" + c);
        }
    }

    private static void characters() {
        Kit.says("' a character '");
        for (int c = 0; c < 256; c++) {
            if (c == '\n') {
                Kit.ill(0, " OCTA '\n'");
            } else {
                value("'" + (char) c + "'", c);
            }
        }
        value("'''", '\'');
        value("'''-'''", 0);
        value("' ' '", ' ');
        for (String wrong : new String[] {"'", "''", "'a", "'ab'", "'ab", "a'", "''''", "' a '", "'a'b", "'a'1"}) {
            unreadable(wrong);
        }
        Kit.ill(1, "a IS 1", " OCTA 'a'a");
    }

    private static void here() {
        Kit.says("@ (where the line is)");
        LittleMix mix = Kit.with(" BYTE @-255", " OCTA @,@", "a IS @", " LOC @+8", " BYTE @-256", " LOC 4095", " BYTE @-4000", "b IS @");
        Kit.due("BYTE", mix.byteAt(256), 1);
        Kit.due("OCTA, gone up", Kit.bytes(mix, 264, 8), 264);
        Kit.due("its second operand", Kit.bytes(mix, 272, 8), 264);
        Kit.due("IS", mix.label(0), 280);
        Kit.due("behind LOC", mix.byteAt(288), 32);
        Kit.due("the last place", mix.byteAt(4095), 95);
        Kit.due("behind it", mix.label(1), 4096);
        unreadable("@@");
        unreadable("@1");
        unreadable("$@");
    }

    private static void signs() {
        Kit.says("TERMS with + or - between (perhaps - before the first)");
        value("-1", -1);
        value("-1-1+5", 3);
        value("-'a'", -97);
        value("-@", -256);
        value("-#1", -1);
        value("-rZ", -27);
        for (String wrong : new String[] {"+1", "--1", "+-1", "-+1", "1--1", "1+-1", "1-+1", "1++1", "1+", "1-", "-", "+", "1*1", "-,1", "1,-", "- 1", "1+ 1"}) {
            unreadable(wrong);
        }
        value("1 + 1,", 1);
    }

    private static long word(String... lines) {
        return Kit.bytes(Kit.with(lines), 256, 4);
    }

    private static void registerNumbers() {
        Kit.says("$ and, directly behind it, a number 0 .. 255");
        Kit.due("$0", word(" ADD $0,$0,$0"), 0x20000000);
        Kit.due("$255", word(" ADD $255,$255,$255"), 0x20ffffff);
        Kit.due("$000255", word(" ADD $000255,$00,$1"), 0x20ff0001);
        for (String wrong : new String[] {"$256", "$-1", "$999999999999999999", "$1000000000000000000", "$", "$+1", "$ 1", "$$1", "$'a'", "$1a"}) {
            Kit.ill(1, " ADD", " ADD $1,$1," + wrong);
            Kit.ill(0, "a IS " + wrong);
        }
    }

    private static void registerLabels() {
        Kit.says("or the label of such a number: a REGISTER");
        Kit.due("0 and 255", word("a IS 0", "b IS 255", " ADD $a,$b,$a"), 0x2000ff00);
        Kit.due("coming later", word(" ADD $a,$b,$a", "a IS 0", "b IS 255"), 0x2000ff00);
        Kit.due("a place", word("a LOC 256", " ADD $b,$1,$1", " LOC 255", "b BYTE 0"), 0x20ff0101);
        for (String number : new String[] {"256", "-1", "#ffffffffffffffff", "#100000000", "$1"}) {
            Kit.ill(1, "a IS " + number, " ADD $1,$1,$a");
            Kit.ill(0, " ADD $1,$1,$a", "a IS " + number);
            Kit.ill(1, "a IS " + number, "b IS $a");
        }
        // the sum would fit, but its first TERM is no register
        Kit.ill(1, "a IS -1", " ADD $1,$1,$a+1");
        Kit.ill(1, "a IS 256", " ADD $1,$1,$a-1");
        Kit.ill(1, "a IS -1", "b IS $a+1");
        Kit.ill(1, "a IS 256", "b IS $a-1");
        Kit.ill(1, " ADD", " ADD $1,$1,$256-1");
        Kit.ill(0, " ADD $1,$1,$a", " LOC 256");
        Kit.ill(1, " SWYM", " ADD $1,$1,$a", "a SWYM");
    }

    private static void labelValues() {
        Kit.says("A label's value is where its line is, or what IS says");
        LittleMix mix = Kit.with("a BYTE 0", "b LOC 0", "c BYTE 0", "d OCTA 0", "e IS 7", "f IS $255", "g LOC 4095", "h BYTE 0", "i LOC 4096", "j IS -1", "k IS @");
        long[] want = {256, 257, 0, 8, 7, (1L << 40) + 255, 16, 4095, 4096, -1, 4096, LittleMix.NONE};
        for (int k = 0; k < want.length; k++) {
            Kit.due("label " + k, mix.label(k), want[k]);
        }
    }

    private static void comingLater() {
        Kit.says("it may come later, but in IS and LOC");
        Kit.ill(-1, " BYTE a", " JMP a", "a IS 4");
        Kit.ill(-1, "a BYTE a-256");
        Kit.ill(-1, "a IS 4", "b IS a", " LOC b");
        Kit.ill(0, "b IS a", "a IS 4");
        Kit.ill(0, "a IS a");
        Kit.ill(0, "a IS 4+a");
        Kit.ill(0, " LOC a", "a IS 4");
        Kit.ill(0, "a LOC a");
        Kit.ill(0, "b IS $a", "a IS 4");
    }

    private static void registerSums() {
        Kit.says("A sum whose first TERM (without -) is a register is one, the others being numbers: its number must be 0 .. 255");
        Kit.due("255", word(" ADD $0+255,$254+1,$255+0"), 0x20ffffff);
        Kit.due("0", word(" ADD $255-255,$1-1,$0+0"), 0x20000000);
        Kit.due("beyond on the way", word(" ADD $255+1-1,$0-1+1,$200+200-200"), 0x20ff00c8);
        Kit.due("around", word(" ADD $1+#ffffffffffffffff,$0-#ffffffffffffffff,$5+#8000000000000000+#8000000000000000"), 0x20000105);
        Kit.due("labels", word("r IS $250", "five IS 5", " ADD r+five,r-five-rR,$five+five"), 0x20ffef0a);
        Kit.due("a label that is a sum", word("r IS $250+5", "s IS r-255", " ADD r,s,s+1"), 0x20ff0001);
        for (String wrong : new String[] {"$255+1", "$0-1", "$0+256", "$1-2", "$0+#8000000000000000", "-$0", "-$1", "0+$1", "1-$1", "$1+$0", "$1-$1", "r+r", "-r", "0+r", "$1+r", "r+6", "r-251"}) {
            Kit.ill(1, "r IS $250", " ADD $1,$1," + wrong);
            Kit.ill(1, "r IS $250", "s IS " + wrong);
            Kit.ill(1, "r IS $250", " LOC " + wrong);
        }
    }

    private static void goingAround() {
        Kit.says("Sums go around in 64 bits");
        value("#7fffffffffffffff", Long.MAX_VALUE);
        value("#7fffffffffffffff+1", Long.MIN_VALUE);
        value("#8000000000000000-1", Long.MAX_VALUE);
        value("-#8000000000000000", Long.MIN_VALUE);
        value("#ffffffffffffffff+1", 0);
        value("0-1", -1);
        value("#ffffffffffffffff+#ffffffffffffffff", -2);
        LittleMix mix = Kit.with("a IS #ffffffffffffffff", "b IS a+1", " LOC b+#8000000000000000+#8000000000000000", "c BYTE 3");
        Kit.due("IS", mix.label(1), 0);
        Kit.due("LOC", mix.label(2), 0);
    }

    private static void is() {
        Kit.says("IS: the label (if there is one) is the operand: a register or a number");
        LittleMix mix = Kit.with("a IS $0", "b IS $255", "c IS 0", "d IS -1", "e IS #7fffffffffffffff", "f IS #8000000000000000", " IS 5", " IS $5", "g IS b", "h IS b-255", "i IS c");
        long[] want = {1L << 40, (1L << 40) + 255, 0, -1, Long.MAX_VALUE, Long.MIN_VALUE, (1L << 40) + 255, 1L << 40, 0};
        for (int k = 0; k < want.length; k++) {
            Kit.due("label " + k, mix.label(k), want[k]);
        }
        Kit.due("no label of IS without one", mix.label(want.length), LittleMix.NONE);
        Kit.due("IS fills nothing", Kit.bytes(mix, 256, 8), 0);
        Kit.ill(1, " SWYM", " IS nowhere");
        Kit.ill(1, " SWYM", " IS $255+1");
    }

    private static void loc() {
        Kit.says("LOC: the next line is at that place (0 .. 4096)");
        for (int place : new int[] {0, 1, 255, 256, 4095, 4096}) {
            LittleMix mix = Kit.with("a LOC " + place, "b IS @");
            Kit.due("its own label", mix.label(0), 256);
            Kit.due("the next line", mix.label(1), place);
        }
        LittleMix byLabel = Kit.with("first IS 0", " LOC first", " BYTE 1", "last IS 4095", " LOC last", " BYTE 2");
        Kit.due("the first byte", byLabel.byteAt(0), 1);
        Kit.due("the last byte", byLabel.byteAt(4095), 2);
        for (String wrong : new String[] {"-1", "4097", "$0", "$100", "#8000000000000000", "#100000000", "#100000100", "-256"}) {
            Kit.ill(1, " SWYM", " LOC " + wrong, " NIX");
        }
    }

    private static void lowestBits() {
        Kit.says("each operand comes there as 1, 2, 4, 8 bytes (the lowest bits)");
        for (int i = 0; i < DATA.length; i++) {
            int size = 1 << i;
            long mask = -1L >>> 64 - 8 * size;
            for (long value : new long[] {0, 1, 127, 128, 255, 256, 257, 65535, 65536, 65537, 0xffffffffL, 0x100000000L, 0x100000001L, -1, -128, -129, Long.MIN_VALUE, Long.MAX_VALUE}) {
                LittleMix mix = Kit.with(" " + DATA[i] + " #" + Long.toHexString(value) + ",1");
                Kit.due(DATA[i] + " " + value, Kit.bytes(mix, 256, size), value & mask);
                Kit.due("the next operand", Kit.bytes(mix, 256 + size, size), 1);
                Kit.due("nothing behind it", mix.byteAt(256 + 2 * size), 0);
            }
        }
    }

    private static void goingUp() {
        Kit.says("for two and more the place goes up to the next multiple first; a label of a line whose place goes up is where it goes to");
        String[] names = {"BYTE", "WYDE", "TETRA", "OCTA", "SWYM"};
        int[] sizes = {1, 2, 4, 8, 4};
        for (int i = 0; i < names.length; i++) {
            for (int place = 296; place <= 312; place++) {
                LittleMix mix = Kit.with(" LOC " + place, "a " + names[i] + " 1", "b IS @");
                int up = (place + sizes[i] - 1) / sizes[i] * sizes[i];
                Kit.due(names[i] + " at " + place, mix.label(0), up);
                Kit.due("behind it", mix.label(1), up + sizes[i]);
                Kit.due("its bytes", Kit.bytes(mix, up, sizes[i]), names[i].equals("SWYM") ? 0xfd010000L : 1);
            }
        }
    }

    private static void places() {
        Kit.says("Their places are 0 .. 4095");
        String[] names = {"BYTE", "WYDE", "TETRA", "OCTA", "SWYM"};
        int[] sizes = {1, 2, 4, 8, 4};
        for (int i = 0; i < names.length; i++) {
            String line = " " + names[i] + " 1";
            int last = 4096 - sizes[i];
            Kit.due("the first place", Kit.bytes(Kit.with(" LOC 0", line), 0, sizes[i]), names[i].equals("SWYM") ? 0xfd010000L : 1);
            Kit.due("the last place", Kit.bytes(Kit.with(" LOC " + last, line), last, sizes[i]), names[i].equals("SWYM") ? 0xfd010000L : 1);
            Kit.ill(1, " LOC " + (last + 1), line);
            Kit.ill(1, " LOC 4096", line);
            Kit.ill(2, " LOC " + last, line, line);
        }
    }

    private static void firstLine() {
        Kit.says("The first line is at 256");
        Kit.due("the first line", Kit.with("a BYTE 1").label(0), 256);
        Kit.due("IS", Kit.with("a IS @").label(0), 256);
        Kit.due("below it is nothing", Kit.with(" BYTE 1").byteAt(255), 0);
        LittleMix mix = Kit.with(" LOC 1000", " BYTE 1");
        Kit.due("of a second source, too", Kit.assemble(mix, "", "a BYTE 1"), 0);
        Kit.due("the first line", mix.label(0), 256);
    }

    private static String[] lines(int times, String line, String... others) {
        String[] lines = new String[times + others.length];
        for (int i = 0; i < times; i++) {
            lines[i] = line.replace("?", "" + (char) ('a' + i / 10) + i % 10);
        }
        System.arraycopy(others, 0, lines, times, others.length);
        return lines;
    }

    private static void fortyLabels() {
        Kit.says("At most 40 labels");
        LittleMix mix = Kit.with(lines(40, "? BYTE 1", " BYTE 1", " LOC d9", " BYTE d9-256"));
        Kit.due("the last label", mix.label(39), 295);
        Kit.due("one more", mix.label(40), LittleMix.NONE);
        Kit.due("it is found", mix.byteAt(295), 39);
        Kit.ill(-1, lines(39, "? IS 1", " BYTE 1", "x IS 2"));
        for (String one : new String[] {"x IS 1", "x BYTE 1", "x LOC 300", "x SWYM"}) {
            Kit.ill(40, lines(40, "? IS 1", one, " NIX"));
            Kit.ill(-1, lines(39, "? IS 1", one));
        }
    }

    private static void linesWithData() {
        Kit.says("160 lines with data or instructions");
        String[] others = {" IS 1", " LOC 300", "* x", "", " ", "x IS 2", "y LOC 300"};
        for (String one : new String[] {" BYTE 1", " WYDE 1", " TETRA 1", " OCTA 1", " SWYM", " JMP @"}) {
            Kit.ill(-1, lines(159, " SWYM", one));
            Kit.ill(160, lines(160, " SWYM", one, " NIX"));
        }
        Kit.ill(-1, lines(160, " SWYM", others));
        Kit.ill(160, lines(160, " BYTE 1", " BYTE 1"));
        Kit.ill(161, lines(160, " BYTE 1", "", " BYTE 1"));
        StringBuilder bytes = new StringBuilder(" BYTE 0");
        Kit.ill(-1, bytes.append(",1".repeat(200)).toString());
    }
}
