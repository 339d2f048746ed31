/** Promise 4: which line is the first ILL one. */
public final class IllAtTest {
    public static void main(String[] args) {
        reading();
        labels();
        places();
        limits();
        order();
        latest();
        Kit.end();
    }

    private static void reading() {
        Kit.ill(-1, "");
        Kit.ill(-1, "", "", " ");
        for (String wrong : new String[] {"alone", "alone  ", "abcdefghijklm IS 1", "a: IS 1", "a_b IS 1", "a\tIS 1", "x,y IS 1", " add $1,$2,$3", " Add $1,$2,$3",
            " ADD, $1", " NOP", " LDOU $1,$2,3", " STOU $1,$2,3", " SET $1,2", " * no remark", " TRAPS", " 2ADDUS $1,$1,1", " \0TRAP", " TRAP\0", " RESUME ; x",
            " WYDEWYDEWYDE 1"}) {
            Kit.ill(2, " SWYM", "* x", wrong, " SWYM");
        }
    }

    private static void labels() {
        Kit.ill(1, "a IS 1", "a IS 1");
        Kit.ill(-1, "a IS 1", "A IS 1", "rC IS 1", "ra IS 1", "rAA IS 2", "RA IS 2");
        for (String special : "rB rD rH rJ rM rR rG rL rA rW rX rY rZ".split(" ")) {
            Kit.ill(0, special + " IS 1");
            Kit.ill(0, special + " SWYM");
        }
        Kit.ill(0, "a IS a");
        Kit.ill(0, "a IS b", "b IS 1");
        Kit.ill(0, "a IS $b", "b IS 1");
        Kit.ill(0, "a LOC a");
        Kit.ill(0, " LOC b", "b IS 1");
        Kit.ill(1, "n IS 256", "a IS $n");
        Kit.ill(1, "n IS $1", "a IS $n");
        Kit.ill(1, "n IS $1", "a IS -n");
        Kit.ill(1, "n IS $1", "a IS 5+n");
        Kit.ill(1, "n IS $1", "a IS n+n");
        Kit.ill(1, "n IS $1", "a IS n+255");
        Kit.ill(0, "a IS");
        Kit.ill(0, "a IS 1,2");
        Kit.ill(0, " LOC");
        Kit.ill(0, " LOC 1,2");
    }

    private static void places() {
        Kit.ill(-1, " LOC 0", " LOC 4096");
        Kit.ill(0, " LOC 4097");
        Kit.ill(0, " LOC -1");
        Kit.ill(0, " LOC $1");
        Kit.ill(-1, " LOC 4095", " BYTE 1");
        Kit.ill(1, " LOC 4095", " BYTE 1,2");
        Kit.ill(1, " LOC 4096", " BYTE 1");
        Kit.ill(-1, " LOC 4092", " SWYM");
        Kit.ill(1, " LOC 4093", " SWYM");
        Kit.ill(2, " LOC 4092", " SWYM", " SWYM");
        Kit.ill(-1, " LOC 4081", " OCTA 1");
        Kit.ill(1, " LOC 4089", " OCTA 1");
        Kit.ill(1, " LOC 4095", " WYDE 1");
        Kit.ill(1, " LOC 4088", " TETRA 1,2,3");
    }

    private static String[] repeated(String line, int times, String... others) {
        String[] lines = new String[times + others.length];
        for (int i = 0; i < times; i++) {
            lines[i] = line.replace("?", "" + (char) ('a' + i / 26) + (char) ('a' + i % 26));
        }
        System.arraycopy(others, 0, lines, times, others.length);
        return lines;
    }

    private static void limits() {
        Kit.ill(-1, repeated("? IS 1", 40));
        Kit.ill(40, repeated("? IS 1", 41));
        Kit.ill(40, repeated("? IS 1", 40, "x SWYM"));
        Kit.ill(-1, repeated(" SWYM", 160));
        Kit.ill(160, repeated(" SWYM", 161));
        Kit.ill(160, repeated(" SWYM", 160, " BYTE 1"));
        Kit.ill(160, repeated(" BYTE 1", 161));
        Kit.ill(-1, repeated(" SWYM", 160, " IS 1", " LOC 1", "", "* x"));
        LittleMix mix = new LittleMix();
        for (int i = 0; i < 3; i++) {
            Kit.due("each source has its own lines", Kit.assemble(mix, repeated(" SWYM", 100)), 0);
            Kit.due("and its own labels", Kit.assemble(mix, repeated("? IS 1", 30)), 0);
        }
    }

    private static void order() {
        Kit.ill(2, " ADD $1", " BYTE nowhere", " NOTHING", " NONE");
        Kit.ill(1, " SETL $1,65536", " LOC 4097");
        Kit.ill(1, " ADD $1", "a IS b", "b IS 1");
        Kit.ill(2, " ADD $1", "a SWYM", "a SWYM");
        Kit.ill(1, " ADD $1", " ADD $256,$1,$1");
        Kit.ill(0, " ADD $1", " ADD $255+1,$1,$1");
        Kit.ill(1, " ADD $1", " BYTE abcdefghijklm");
        Kit.ill(1, " ADD $1", "abcdefghijklm BYTE 1");
        Kit.ill(0, " ADD $1", " BYTE abcdefghijkl");
        Kit.ill(0, " BYTE nowhere", " ADD $nowhere,$1,$1");
        Kit.ill(2, " JMP 2", " SWYM", " LOC 4095+2");
        Kit.ill(1, " JMP 4", " JMP 2", " SWYM 256");
    }

    private static void latest() {
        LittleMix mix = new LittleMix();
        Kit.assemble(mix, " SWYM", " X");
        Kit.due("illAt", mix.illAt(), 1);
        mix.assemble(5);
        Kit.due("illAt behind assemble's NONE", mix.illAt(), 1);
        mix.back();
        Kit.due("illAt behind back", mix.illAt(), 1);
        Kit.assemble(mix, " X");
        Kit.due("illAt of the next", mix.illAt(), 0);
        Kit.assemble(mix, " SWYM");
        Kit.due("illAt of a good one", mix.illAt(), LittleMix.NONE);
    }
}
