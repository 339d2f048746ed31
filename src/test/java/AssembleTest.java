/** Promise 3: the answers of assemble, and the bytes that sources become. */
public final class AssembleTest {
    static final String PAIRS = "24 MUL MULU DIV DIVU ADD ADDU SUB SUBU 2ADDU 4ADDU 8ADDU 16ADDU CMP CMPU;56 SL SLU SR SRU;"
            + "96 CSN CSZ CSP CSOD CSNN CSNZ CSNP CSEV ZSN ZSZ ZSP ZSOD ZSNN ZSNZ ZSNP ZSEV;128 LDB LDBU LDW LDWU LDT LDTU LDO;"
            + "160 STB STBU STW STWU STT STTU STO;192 OR ORN NOR XOR AND ANDN NAND NXOR BDIF WDIF TDIF ODIF MUX SADD MOR MXOR";
    static final String BRANCHES = "64 BN BZ BP BOD BNN BNZ BNP BEV PBN PBZ PBP PBOD PBNN PBNZ PBNP PBEV;242 PUSHJ GETA";
    static final String WIDE = "SETH SETMH SETML SETL INCH INCMH INCML INCL ORH ORMH ORML ORL ANDNH ANDNMH ANDNML ANDNL";
    private static final String[] SPECIAL = {"rB0", "rD1", "rH3", "rJ4", "rM5", "rR6", "rG19", "rL20", "rA21", "rW24", "rX25", "rY26", "rZ27"};

    public static void main(String[] args) {
        answers();
        memoryAndMachine();
        pairs();
        branches();
        wide();
        others();
        specials();
        data();
        expressions();
        lines();
        cuts();
        Kit.end();
    }

    private static void word(long want, String... lines) {
        LittleMix mix = Kit.with(lines);
        Kit.due(lines[lines.length - 1], Kit.bytes(mix, 256, 4), want);
    }

    private static void answers() {
        LittleMix mix = new LittleMix();
        Kit.due("assemble(0)", mix.assemble(0), 0);
        Kit.due("assemble(1)", mix.assemble(1), LittleMix.NONE);
        Kit.due("assemble(-1)", mix.assemble(-1), LittleMix.NONE);
        Kit.due("assemble(least)", mix.assemble(Integer.MIN_VALUE), LittleMix.NONE);
        Kit.feed(mix, " BYTE 1\n BYTE 2\n BYTE");
        Kit.due("too many", mix.assemble(41), LittleMix.NONE);
        Kit.due("below 0", mix.assemble(-5), LittleMix.NONE);
        Kit.due("a part; the tape stayed", mix.assemble(16), 0);
        Kit.due("the second line", mix.byteAt(257), 2);
        Kit.due("the tape is empty, with the part that wasn't taken", mix.assemble(1), LittleMix.NONE);
        Kit.feed(mix, " BYTES 1");
        Kit.due("ill", mix.assemble(8), 1);
        Kit.due("the tape is empty then, too", mix.assemble(1), LittleMix.NONE);
    }

    private static void memoryAndMachine() {
        LittleMix mix = Kit.with(" SETL $1,7", " TRAP 0", "x OCTA 5", " LOC 0", " OCTA 6");
        mix.run(10);
        Kit.store(mix, 4088, -1);
        Kit.due("ill", Kit.assemble(mix, " ADD"), 1);
        Kit.due("memory stays", Kit.bytes(mix, 4088, 8), -1);
        Kit.due("the machine stays", mix.register(1), 7);
        Kit.due("it is still stopped", mix.stopped(), 5);
        Kit.due("the place stays", mix.place(), 260);
        Kit.due("the labels stay", mix.label(0), 264);
        Kit.due("good", Kit.assemble(mix, " LOC 8", " BYTE 9"), 0);
        Kit.due("memory is new", mix.byteAt(8), 9);
        Kit.due("all else is 0", Kit.bytes(mix, 4088, 8), 0);
        Kit.due("the code is gone", Kit.bytes(mix, 256, 8), 0);
        Kit.due("the data is gone", Kit.bytes(mix, 264, 8) | Kit.bytes(mix, 0, 8), 0);
        Kit.due("set back: register", mix.register(1), 0);
        Kit.due("set back: stopped", mix.stopped(), 0);
        Kit.due("set back: place", mix.place(), 256);
        Kit.due("no label", mix.label(0), LittleMix.NONE);
    }

    private static void pairs() {
        for (String group : PAIRS.split(";")) {
            String[] names = group.split(" ");
            long number = Long.parseLong(names[0]);
            for (int i = 1; i < names.length; i++) {
                word(number << 24 | 0x0102ff, " " + names[i] + " $1,$2,$255");
                word(number + 1 << 24 | 0xff00ff, " " + names[i] + " $255,$0,255");
                Kit.ill(0, " " + names[i] + " $1,$2,256");
                Kit.ill(0, " " + names[i] + " $1,$2,-1");
                Kit.ill(0, " " + names[i] + " $1,2,$3");
                Kit.ill(0, " " + names[i] + " 1,$2,$3");
                Kit.ill(0, " " + names[i] + " $1,$2");
                Kit.ill(0, " " + names[i] + " $1,$2,$3,0");
                Kit.ill(0, " " + names[i]);
                number += 2;
            }
        }
    }

    private static void branches() {
        for (String group : BRANCHES.split(";")) {
            String[] names = group.split(" ");
            long number = Long.parseLong(names[0]);
            for (int i = 1; i < names.length; i++) {
                word(number << 24 | 0x070000, " " + names[i] + " $7,@");
                word(number << 24 | 0x07ffff, " " + names[i] + " $7,@+65535-65535+262140");
                word(number + 1 << 24 | 0x07ffff, " " + names[i] + " $7,@-4");
                word(number + 1 << 24 | 0x070000, " " + names[i] + " $7,@-262144");
                Kit.ill(0, " " + names[i] + " $7,@+262144");
                Kit.ill(0, " " + names[i] + " $7,@-262148");
                Kit.ill(0, " " + names[i] + " $7,@+2");
                Kit.ill(0, " " + names[i] + " $7,$8");
                Kit.ill(0, " " + names[i] + " 7,@");
                Kit.ill(0, " " + names[i] + " @");
                number += 2;
            }
        }
        word(240L << 24 | 1, " JMP @+4");
        word(240L << 24 | 0xffffff, " JMP @+67108860");
        word(241L << 24 | 0xffffff, " JMP @-4");
        word(241L << 24, " JMP @-67108864");
        Kit.ill(0, " JMP @+67108864");
        Kit.ill(0, " JMP @-67108868");
        Kit.ill(0, " JMP #8000000000000000");
        Kit.ill(0, " JMP @+1");
        Kit.ill(0, " JMP $1");
        Kit.ill(0, " JMP");
        Kit.ill(0, " JMP @,@");
    }

    private static void wide() {
        String[] names = WIDE.split(" ");
        for (int i = 0; i < names.length; i++) {
            word((224L + i) << 24 | 0x09fedc, " " + names[i] + " $9,#fEDc");
            word((224L + i) << 24 | 0x09ffff, " " + names[i] + " $9,65535");
            Kit.ill(0, " " + names[i] + " $9,65536");
            Kit.ill(0, " " + names[i] + " $9,-1");
            Kit.ill(0, " " + names[i] + " $9,$1");
            Kit.ill(0, " " + names[i] + " 9,1");
            Kit.ill(0, " " + names[i] + " $9");
            Kit.ill(0, " " + names[i] + " $9,1,2");
        }
    }

    private static void others() {
        word(0x34010203L, " NEG $1,2,$3");
        word(0x35010203L, " NEG $1,2,3");
        word(0x34010003L, " NEG $1,$3");
        word(0x37010003L, " NEGU $1,3");
        word(0x3601ff03L, " NEGU $1,255,$3");
        Kit.ill(0, " NEG $1,$2,$3");
        Kit.ill(0, " NEG $1,256,$3");
        Kit.ill(0, " NEG $1");
        Kit.ill(0, " NEG 1,$2");
        Kit.ill(0, " NEG $1,256");
        Kit.ill(0, " NEG $1,2,3,4");
        word(0xb4070203L, " STCO 7,$2,$3");
        word(0xb5ff02ffL, " STCO 255,$2,255");
        Kit.ill(0, " STCO $7,$2,3");
        Kit.ill(0, " STCO 256,$2,3");
        Kit.ill(0, " STCO 7,2,3");
        word(0xf8ffffffL, " POP 255,65535");
        word(0xf8000000L, " POP 0,0");
        for (String wrong : new String[] {"256,0", "0,65536", "1", "", "$1,0", "1,$0", "-1,0", "1,2,3"}) {
            Kit.ill(0, " POP " + wrong);
        }
        String[] names = {"TRAP", "RESUME", "SWYM", "TRIP"};
        int[] numbers = {0, 249, 253, 255};
        for (int i = 0; i < names.length; i++) {
            long number = (long) numbers[i] << 24;
            word(number, " " + names[i]);
            word(number | 0x050000, " " + names[i] + " 5");
            word(number | 0x050600, " " + names[i] + " 5,6 and a remark");
            word(number | 0x0506ff, " " + names[i] + " 5,6,255");
            for (String wrong : new String[] {"1,2,3,4", "256", "1,256", "1,1,256", "-1", "$1"}) {
                Kit.ill(0, " " + names[i] + " " + wrong);
            }
        }
    }

    private static void specials() {
        for (String special : SPECIAL) {
            String name = special.substring(0, 2);
            long number = Long.parseLong(special.substring(2));
            word(0xf6000009L | number << 16, " PUT " + name + ",$9");
            word(0xf7000009L | number << 16, " PUT " + name + ",9");
            word(0xfe090000L | number, " GET $9," + name);
            word(number << 24, " BYTE " + name);
        }
        for (String wrong : new String[] {"PUT 2,1", "PUT 7,1", "PUT 32,1", "PUT -1,1", "PUT $4,1", "PUT rA,256", "PUT rA", "PUT rA,1,2",
            "PUT rC,1", "GET $1,2", "GET $1,$4", "GET 1,rA", "GET rA,$1", "GET $1", "GET $1,rA,0", "GET $1,ra"}) {
            Kit.ill(0, " " + wrong);
        }
    }

    private static void data() {
        LittleMix mix = Kit.with(" BYTE 1,255,256,-1", " WYDE #12345", " BYTE 7", " TETRA #123456789,-2", " BYTE 1", " OCTA #fedcba9876543210,1", " BYTE 3",
                " SWYM 1,2,3");
        Kit.due("BYTE", Kit.bytes(mix, 256, 4), 0x01ff00ffL);
        Kit.due("WYDE", Kit.bytes(mix, 260, 2), 0x2345);
        Kit.due("BYTE behind it", mix.byteAt(262), 7);
        Kit.due("what is skipped", mix.byteAt(263), 0);
        Kit.due("TETRA", Kit.bytes(mix, 264, 8), 0x23456789fffffffeL);
        Kit.due("OCTA", Kit.bytes(mix, 280, 8), 0xfedcba9876543210L);
        Kit.due("a second OCTA", Kit.bytes(mix, 288, 8), 1);
        Kit.due("an instruction goes up", Kit.bytes(mix, 296, 8), 0x03000000fd010203L);
        for (String name : new String[] {"BYTE", "WYDE", "TETRA", "OCTA"}) {
            Kit.ill(0, " " + name);
            Kit.ill(0, " " + name + " $1");
            Kit.ill(0, " " + name + " 1,$1");
            Kit.ill(0, " " + name + " 1,nowhere");
        }
        StringBuilder many = new StringBuilder(" BYTE 0");
        for (int i = 1; i < 790; i++) {
            many.append(',').append(i % 10);
        }
        LittleMix wide = Kit.with(many.toString());
        Kit.due("the last of many operands", wide.byteAt(256 + 789), 9);
        LittleMix twice = Kit.with(" OCTA -1", " LOC 257", " BYTE 3", " LOC 4095", " BYTE 6");
        Kit.due("written over", Kit.bytes(twice, 256, 8), 0xff03ffffffffffffL);
        Kit.due("the last byte", twice.byteAt(4095), 6);
    }

    private static void value(String expression, long want) {
        LittleMix mix = Kit.with("a IS 100", "b IS $7", " OCTA " + expression, "c OCTA 1");
        Kit.due(expression, Kit.bytes(mix, 256, 8), want);
    }

    private static void expressions() {
        value("999999999999999999", 999999999999999999L);
        value("000000000000000007", 7);
        value("-5", -5);
        value("#0123456789abcdef", 0x0123456789abcdefL);
        value("#ABCDEF", 0xabcdef);
        value("1+2-3+10", 10);
        value("-1-2", -3);
        value("#FFFFFFFFFFFFFFFF+1", 0);
        value("#7fffffffffffffff+1", Long.MIN_VALUE);
        value("'a'", 'a');
        value("' '", ' ');
        value("','-'+'", 1);
        value("'''", 39);
        value("@+1", 257);
        value("a+c", 100 + 264);
        value("-a", -100);
        value("rZ+rB", 27);
        value("1 +2", 1);
        for (String wrong : new String[] {"1234567890123456789", "#12345678901234567", "#", "#g", "''", "'ab'", "'a", "+1", "1+", "1--1", "1+-1", "-",
            "--1", "1,", ",1", "1,,1", "1, 1", "1;", "1a", "a.", "abcdefghijklm", "\"a\"", "(1)", "1*2", "$", "$256", "$-1", "$ 1", "$$1", "$@"}) {
            Kit.ill(1, "a IS 1", " OCTA " + wrong, " OCTA 1");
        }
        word(0xfd000000L | 15, " SWYM 0,0,n", "n IS 15");
        word(0x20050709L, "n IS $4", "five IS 5", "k IS 2", " ADD $five,$five+k,n+five");
        word(0x21050709L, " ADD $k+3,$9-k,m", "k IS 2", "m IS 9");
        word(0x20ff0001L, " ADD $0+255,$255-255,$1+#ffffffffffffffff+1");
        word(0x20000000L | 0x0a0b0c, "n IS $10", " ADD n,n+1,n+2");
        for (String wrong : new String[] {"$255+1", "$0-1", "-$1", "1+$1", "$1+$1", "$1+n", "$n", "$large", "$minus", "$nowhere", "nowhere", "$rB", "@"}) {
            Kit.ill(3, "n IS $1", "large IS 256", "minus IS -1", " ADD $1," + wrong + ",1");
        }
    }

    private static void lines() {
        LittleMix mix = Kit.with("* a remark", "", "   ", "2nd line is a remark", "\tand this", "\u00e4 BYTE 1", "a   BYTE   1   a remark, of course",
                "A BYTE 2", "ADD BYTE ADD-256,A-256", "abcdefghijkl IS 3", " BYTE abcdefghijkl", " IS 5", " LOC ADD+10", "z9 LOC 4096", "end IS @");
        Kit.due("labels are told apart", Kit.bytes(mix, 256, 5), 0x0102020103L);
        Kit.due("label of LOC", mix.label(4), 268);
        Kit.due("label behind LOC", mix.label(5), 4096);
        LittleMix odd = Kit.with(" BYTE 1", "a IS @", "b LOC @+2", "c BYTE 1");
        Kit.due("IS doesn't go up", odd.label(0), 257);
        Kit.due("LOC doesn't go up", odd.label(1), 257);
        Kit.due("nor does BYTE", odd.label(2), 259);
        word(0x20010203L, " ADD  $1,$2,$3  $4");
        word(0x20010203L, "x ADD $1,$2,$3 ");
    }

    /** What stands on the tape behind the source is not read. */
    private static void cuts() {
        cut(" OCTA 12", 7, 1);
        cut(" OCTA #12", 8, 1);
        cut(" OCTA 1+2", 7, 1);
        cut(" OCTA 1,2", 7, 1);
        cut(" OCTA 1;", 7, 1);
        cut(" OCTA rAb", 8, 21);
        cut("a OCTA ab", 8, 256);
        cut(" OCTA 'a'x", 9, 'a');
        cut(" SWYM 5", 5, 0xfd00000000000000L);
        cut(" SWYMS", 5, 0xfd00000000000000L);
        cut("alone IS 1", 0, 0);
        for (String left : new String[] {" OCTA |1", "a OCTA", " OCTA 1,|1", " OCTA 1+|1", " OCTA -|1", " OCTA #|1", " OCTA 'a|'", " OCTA '|a'", " ADD $1,$2,$|1", "lab|el IS 1", "label| IS 1"}) {
            LittleMix mix = new LittleMix();
            Kit.feed(mix, left.replace("|", ""));
            int n = left.indexOf('|') < 0 ? left.length() : left.indexOf('|');
            Kit.due(left, mix.assemble(n), 1);
        }
    }

    private static void cut(String text, int n, long want) {
        LittleMix mix = new LittleMix();
        Kit.feed(mix, text);
        Kit.due("the first " + n + " of " + text, mix.assemble(n), 0);
        Kit.due(text, Kit.bytes(mix, 256, 8), want);
    }
}
