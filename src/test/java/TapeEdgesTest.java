import java.util.function.Supplier;

/** The boundary cases of THE TAPE, of feed (promise 2) and of assemble (promise 3), sentence by sentence. */
public final class TapeEdgesTest {
    public static void main(String[] args) {
        room();
        refusedFeedChangesNothing();
        roomAgain();
        highestFirst();
        tooMany();
        refusedAssembleChangesNothing();
        noBytes();
        cutOff();
        nothingBehindTheCut();
        endOfAFullTape();
        lineEnds();
        firstBytes();
        labelBytes();
        labelLengths();
        blanks();
        commas();
        remarks();
        withoutOperation();
        Kit.end();
    }

    private static boolean isLetter(int c) {
        return c >= 'A' && c <= 'Z' || c >= 'a' && c <= 'z';
    }

    private static boolean feedText(LittleMix mix, String twenty) {
        int[] five = new int[5];
        for (int i = 0; i < 20; i++) {
            five[i / 4] = five[i / 4] << 8 | twenty.charAt(i);
        }
        return mix.feed(five[0], five[1], five[2], five[3], five[4]);
    }

    /** A tape with room for twenty bytes more. */
    private static LittleMix nearlyFull() {
        LittleMix mix = new LittleMix();
        Kit.due("bytes", Kit.feed(mix, " BYTE 1,2\n" + "*".repeat(1570)), 1580);
        return mix;
    }

    private static LittleMix full() {
        LittleMix mix = nearlyFull();
        Kit.due("the last twenty", feedText(mix, "\n BYTE 3,4,5,6,7,8,9"), true);
        return mix;
    }

    private static void room() {
        Kit.says("THE TAPE takes bytes, twenty a call, at most 1600; false if it hasn't room");
        LittleMix before = nearlyFull();
        Kit.due("1581 of 1580", before.assemble(1581), LittleMix.NONE);
        Kit.due("1580 of 1580", before.assemble(1580), 0);
        LittleMix mix = full();
        Kit.due("an 81st call", feedText(mix, "\n BYTE 11,12,13,14  "), false);
        Kit.due("an 82nd call", feedText(mix, " BYTE 11,12,13,14  \n"), false);
        Kit.due("1601 of 1600", mix.assemble(1601), LittleMix.NONE);
        Kit.due("1600 of 1600", mix.assemble(1600), 0);
        Kit.due("the bytes from before", Kit.bytes(mix, 256, 8), 0x0102030405060708L);
        Kit.due("the last one", Kit.bytes(mix, 264, 2), 0x0900);
    }

    private static void refusedFeedChangesNothing() {
        Kit.says("false if it hasn't room");
        Snapshot.same("feed of a full tape", TapeEdgesTest::full, () -> {
            LittleMix mix = full();
            Kit.due("feed", mix.feed(-1, -1, -1, -1, -1), false);
            return mix;
        });
    }

    private static void roomAgain() {
        Kit.says("The first n bytes of the tape, which is empty then");
        for (int n : new int[] {0, 1, 1580, 1600}) {
            LittleMix mix = full();
            Kit.due("assemble(" + n + ")", mix.assemble(n) != LittleMix.NONE, true);
            Kit.due("none is left", mix.assemble(1), LittleMix.NONE);
            for (int i = 0; i < 80; i++) {
                Kit.due("call " + i, feedText(mix, "********************"), true);
            }
            Kit.due("one more", feedText(mix, "********************"), false);
        }
        LittleMix ill = full();
        ill.assemble(6);
        Kit.due("ILL", ill.illAt(), 0);
        Kit.due("none is left of an ILL one", ill.assemble(1), LittleMix.NONE);
    }

    private static void highestFirst() {
        Kit.says("Twenty bytes come onto the tape: four in each number, the highest first");
        for (int c = 0; c < 256; c++) {
            if (c != '\n') {
                LittleMix mix = new LittleMix();
                mix.feed(0x20425954, 0x45202700 | c, 0x272c2700 | c, 0x272c2731, 0x27000000);
                Kit.due("assemble with " + c, mix.assemble(17), 0);
                Kit.due("the bytes " + c, Kit.bytes(mix, 256, 4), ((long) c << 8 | c) << 16 | 0x3100);
            }
        }
        LittleMix top = new LittleMix();
        top.feed('\'' << 24 | ' ' << 16 | '\n' << 8 | ' ', 0x42595445, 0x2027ff27, 0x2c278027, 0x2c27ff27);
        Kit.due("a number below 0", top.assemble(20), 0);
        Kit.due("its bytes", Kit.bytes(top, 256, 4), 0xff80ff00L);
    }

    private static LittleMix fed(String text) {
        LittleMix mix = new LittleMix();
        Kit.feed(mix, text);
        return mix;
    }

    private static void tooMany() {
        Kit.says("NONE if there are not so many, or n is below 0 (the tape stays)");
        LittleMix empty = new LittleMix();
        for (int n : new int[] {1, 20, 1600, 1601, Integer.MAX_VALUE, -1, -20, Integer.MIN_VALUE}) {
            Kit.due(n + " of an empty tape", empty.assemble(n), LittleMix.NONE);
        }
        Kit.due("0 of an empty tape", empty.assemble(0), 0);
        String text = " BYTE 1,2,3,4,5,6,78";
        LittleMix mix = fed(text);
        for (int n : new int[] {21, 40, 1600, Integer.MAX_VALUE, -1, -20, Integer.MIN_VALUE}) {
            Kit.due(n + " of 20", mix.assemble(n), LittleMix.NONE);
        }
        Kit.due("20 of 20", mix.assemble(20), 0);
        Kit.due("what stayed on the tape", Kit.bytes(mix, 256, 8), 0x0102030405064e00L);
        Kit.due("19 of 20", fed(text).assemble(19), 0);
        LittleMix longer = fed(text);
        longer.assemble(21);
        Kit.feed(longer, ",9" + " ".repeat(18));
        Kit.due("40, behind a refused call", longer.assemble(40), 0);
        Kit.due("both parts", Kit.bytes(longer, 256, 8), 0x0102030405064e09L);
    }

    private static LittleMix busy() {
        LittleMix mix = Kit.ran("a SETL $1,7", " PUT rJ,9", " PUSHJ $2,@+4", "b TRAP 0", "c IS $3");
        Kit.due("ILL", Kit.assemble(mix, "", " NIX"), 1);
        Kit.feed(mix, "tape BYTE 1,2,3,4   ");
        return mix;
    }

    private static void refusedAssembleChangesNothing() {
        Kit.says("NONE if there are not so many, or n is below 0 (the tape stays)");
        for (int n : new int[] {21, -1}) {
            Supplier<LittleMix> after = () -> {
                LittleMix mix = busy();
                Kit.due("assemble(" + n + ")", mix.assemble(n), LittleMix.NONE);
                return mix;
            };
            Snapshot.same("assemble(" + n + ")", TapeEdgesTest::busy, after);
        }
    }

    private static void noBytes() {
        Kit.says("The first n bytes of the tape, which is empty then, are a SOURCE");
        LittleMix mix = busy();
        Kit.due("no bytes", mix.assemble(0), 0);
        Kit.due("no line is ILL", mix.illAt(), LittleMix.NONE);
        Kit.due("no label", mix.label(0), LittleMix.NONE);
        Kit.due("all is 0", Kit.bytes(mix, 256, 8), 0);
        Kit.due("SET BACK", mix.stopped(), 0);
        Kit.due("SET BACK: the stack", mix.taken(2), 0);
        Kit.due("the tape is empty", mix.assemble(1), LittleMix.NONE);
    }

    private static void cutOff() {
        Kit.says("a SOURCE is cut off it: LINES, each ended by a byte 10 (or the end)");
        String text = " BYTE 12\n BYTE 34";
        // for the first n bytes: the ILL line, or both bytes of memory
        int[] illAt = {-1, -1, 0, 0, 0, 0, 0, -1, -1, -1, -1, 1, 1, 1, 1, 1, -1, -1};
        int[] bytes = {0, 0, 0, 0, 0, 0, 0, 0x0100, 0x0c00, 0x0c00, 0x0c00, 0, 0, 0, 0, 0, 0x0c03, 0x0c22};
        for (int n = 0; n <= text.length(); n++) {
            LittleMix mix = fed(text);
            Kit.due("cut at " + n, mix.assemble(n), illAt[n] < 0 ? 0 : 1);
            Kit.due("illAt, cut at " + n, mix.illAt(), illAt[n]);
            Kit.due("bytes, cut at " + n, Kit.bytes(mix, 256, 2), bytes[n]);
        }
    }

    private static void nothingBehindTheCut() {
        Kit.says("The first n bytes of the tape are a SOURCE");
        String text = "n IS 5\nreg IS $n-1\nx BYTE 1+n,-n+@,@+1,'a'-'b',-'''+#fF-rA,rB-rZ\n ADD reg+n,$n+1,$9-n+@-@\nnn IS n-n\n BYTE 1,2,nn\n LOC @+#10\n TRAP 1,n\n* x\nlast SWYM n\n OCTA nn+last,-last,-@,1+@,-#1";
        for (int n = 0; n <= text.length(); n++) {
            LittleMix mix = fed(text);
            LittleMix alone = fed(text.substring(0, n));
            Model model = new Model();
            int want = model.assemble(text.substring(0, n));
            Kit.due("cut at " + n, mix.assemble(n), want);
            Kit.due("alone, cut at " + n, alone.assemble(n), want);
            Kit.due("illAt, cut at " + n, mix.illAt(), model.illAt);
            Kit.due("alone, illAt, cut at " + n, alone.illAt(), model.illAt);
            for (int k = 0; k < 6; k++) {
                Kit.due("label, cut at " + n, mix.label(k), k < model.told.size() ? model.told.get(k) : LittleMix.NONE);
            }
            for (int place = 256; place < 340; place++) {
                Kit.due("byte, cut at " + n, mix.byteAt(place), model.byteAt(place));
            }
        }
        Kit.due("all of it is good", fed(text).assemble(text.length()), 0);
    }

    /** A source that ends with the tape's last byte, in each part of a line. */
    private static void endOfAFullTape() {
        Kit.says("at most 1600; LINES, each ended by a byte 10 (or the end)");
        String[] good = {"", " ", "*", " BYTE 1", " BYTE 1 ", " BYTE 1,2", " BYTE #f", " BYTE 'a'", " BYTE @", " BYTE rA", " BYTE n", " BYTE 1-1", " ADD $1,$1,$1", " ADD $n,$1,$n", " SWYM", " SWYM ", "x IS 1",
            " BYTE 1 '", " BYTE 1 a"};
        String[] ill = {"a", "abcdefghijklm", "a ", "a!", " B", " BYTE", " BYTE ", " BYTE 1,", " BYTE #", " BYTE '", " BYTE 'a", " BYTE ''", " BYTE 1+", " BYTE 1-", " BYTE -", " BYTE $", " BYTE $n", " BYTE abc", " ADD $1,$1,$",
            " ADD $1,$1", " BYTE 1x", "rA SWYM", "n SWYM", "x IS", "x IS y"};
        for (String end : good) {
            Kit.due("at the end: " + end, filled(end).illAt(), LittleMix.NONE);
        }
        for (String end : ill) {
            Kit.due("at the end: " + end, filled(end).illAt(), 2);
        }
    }

    private static LittleMix filled(String end) {
        LittleMix mix = new LittleMix();
        String start = "n IS 5\n*";
        Kit.feed(mix, start + " ".repeat(1600 - start.length() - end.length() - 1) + "\n" + end);
        Kit.due("assemble " + end, mix.assemble(1600) != LittleMix.NONE, true);
        return mix;
    }

    private static void lineEnds() {
        Kit.says("LINES, each ended by a byte 10 (or the end)");
        for (String end : new String[] {"", "\n", "\n\n", "\n \n"}) {
            LittleMix mix = new LittleMix();
            Kit.due("with " + end.length() + " bytes more", mix.assemble(Kit.feed(mix, " BYTE 1\n BYTE 2" + end)), 0);
            Kit.due("both lines", Kit.bytes(mix, 256, 3), 0x010200);
        }
        for (int c : new int[] {0, 9, 11, 12, 13, 133}) {
            Kit.ill(0, " BYTE 1" + (char) c + " BYTE 2");
        }
        for (int empty = 0; empty < 4; empty++) {
            LittleMix mix = new LittleMix();
            String text = "\n".repeat(empty) + " NIX";
            Kit.due("ILL", mix.assemble(Kit.feed(mix, text)), 1);
            Kit.due("lines are counted from 0", mix.illAt(), empty);
        }
        LittleMix most = new LittleMix();
        Kit.due("1600 lines", most.assemble(Kit.feed(most, "\n".repeat(1600))), 0);
        LittleMix last = new LittleMix();
        Kit.due("the last of 1599 lines", last.assemble(Kit.feed(last, "\n".repeat(1598) + " X")), 1);
        Kit.due("the last of 1599 lines", last.illAt(), 1598);
    }

    private static void firstBytes() {
        Kit.says("A line beginning with other than a letter is nothing but a remark, if it isn't a blank (space)");
        for (int c = 0; c < 256; c++) {
            if (c == '\n') {
                continue;
            }
            LittleMix mix = new LittleMix();
            int answer = Kit.assemble(mix, (char) c + "IS BYTE 5");
            if (isLetter(c)) {
                Kit.due("a label with " + c, answer, 0);
                Kit.due("a label with " + c, mix.label(0), 256);
            } else {
                Kit.due("a line with " + c, answer, c == ' ' ? 1 : 0);
                Kit.due("no label with " + c, mix.label(0), LittleMix.NONE);
            }
            Kit.due("the byte of a line with " + c, mix.byteAt(256), isLetter(c) ? 5 : 0);
        }
    }

    private static void labelBytes() {
        Kit.says("a LABEL (letters, digits, at most 12, at its beginning; or none)");
        for (int c = 0; c < 256; c++) {
            if (c == '\n') {
                continue;
            }
            LittleMix mix = new LittleMix();
            boolean fits = isLetter(c) || c >= '0' && c <= '9';
            Kit.due("a label with a byte " + c, Kit.assemble(mix, "a" + (char) c + "b BYTE 5"), fits ? 0 : 1);
            Kit.due("its label", mix.label(0), fits ? 256 : LittleMix.NONE);
            Kit.due("an operation with a byte " + c, Kit.assemble(mix, " BYTE" + (char) c + "5"), c == ' ' ? 0 : 1);
        }
    }

    private static void labelLengths() {
        Kit.says("a LABEL (letters, digits, at most 12)");
        Kit.ill(-1, "a IS 1", " BYTE a");
        Kit.ill(-1, "a2345678901B IS 1", " BYTE a2345678901B");
        Kit.ill(0, "a2345678901BC IS 1", " BYTE 1");
        Kit.ill(0, "a2345678901BC SWYM");
        Kit.ill(1, "a2345678901B IS 1", " BYTE a2345678901BC");
        LittleMix mix = Kit.with("a2345678901B IS 1", "a2345678901c IS 2", "a2345678901 IS 3", " BYTE a2345678901B,a2345678901c,a2345678901");
        Kit.due("all twelve count", Kit.bytes(mix, 256, 3), 0x010203);
    }

    private static void blanks() {
        Kit.says("a LABEL, blanks, an OPERATION, blanks, OPERANDS");
        LittleMix mix = Kit.with("a BYTE 1", "b      BYTE      2", " BYTE 3", "         BYTE      4");
        Kit.due("one and more", Kit.bytes(mix, 256, 4), 0x01020304);
        Kit.ill(0, "BYTE 1");
        Kit.ill(0, "aBYTE 1");
        Kit.ill(0, " BYTE1");
        Kit.ill(0, "a BYTE1");
        Kit.ill(0, "a\tBYTE 1");
        Kit.ill(0, "a BYTE\t1");
        Kit.ill(-1, "\u00a0a BYTE 1");
    }

    private static void commas() {
        Kit.says("OPERANDS with commas between (none between them and blanks)");
        LittleMix mix = Kit.with(" BYTE 1,2", " BYTE 3 ,4", " BYTE 5");
        Kit.due("a blank before the comma begins a remark", Kit.bytes(mix, 256, 4), 0x01020305);
        for (String wrong : new String[] {"1, 2", "1,", "1, ", ",", ",1", "1,,2", "1,2,"}) {
            Kit.ill(1, " SWYM", " BYTE " + wrong);
        }
    }

    private static void remarks() {
        Kit.says("behind which a blank begins a remark");
        LittleMix mix = Kit.with(" BYTE 1 2", " BYTE 2  ,3 $ #", " BYTE 3 ", " BYTE 4 'n\\", " SWYM 1,2,3 4", "a IS 7 b", " LOC 300 400", " BYTE a \u00ff");
        Kit.due("the bytes", Kit.bytes(mix, 256, 4), 0x01020304);
        Kit.due("an instruction", Kit.bytes(mix, 260, 4), 0xfd010203L);
        Kit.due("behind LOC", mix.byteAt(300), 7);
    }

    private static void withoutOperation() {
        Kit.says("A line without an operation is nothing (a label alone is ILL)");
        LittleMix mix = Kit.with("", " ", " ".repeat(50), " BYTE 1", "", " ", "x BYTE 2");
        Kit.due("they fill nothing", Kit.bytes(mix, 256, 2), 0x0102);
        Kit.due("and have no label", mix.label(0), 257);
        for (String alone : new String[] {"a", "a ", "abcdefghijkl", "ADD", "a" + " ".repeat(30)}) {
            Kit.ill(2, " SWYM", " ", alone, " SWYM");
        }
    }
}
