/** Promise 9: events, and what TRIPS. */
public final class EventTest {
    private static final int OVERFLOW = 64;
    private static final int BY_ZERO = 128;

    public static void main(String[] args) {
        gathered();
        tripsOf("DIV $3,$1,$2", 5, 0, BY_ZERO, 60, 0, 5, 0);
        tripsOf("DIV $3,$1,$2", Long.MIN_VALUE, -1, OVERFLOW, 60, Long.MIN_VALUE, Long.MIN_VALUE, -1);
        tripsOf("MUL $3,$1,$2", 1L << 62, 2, OVERFLOW, 10, Long.MIN_VALUE, 1L << 62, 2);
        tripsOf("ADD $3,$1,$2", Long.MAX_VALUE, 1, OVERFLOW, 1, Long.MIN_VALUE, Long.MAX_VALUE, 1);
        tripsOf("ADD $3,$1,200", Long.MAX_VALUE, 1, OVERFLOW, 1, Long.MIN_VALUE + 199, Long.MAX_VALUE, 200);
        tripsOf("SUB $3,$1,$2", Long.MIN_VALUE, 1, OVERFLOW, 1, Long.MAX_VALUE, Long.MIN_VALUE, 1);
        tripsOf("NEG $3,9,$1", Long.MIN_VALUE, 1, OVERFLOW, 1, Long.MIN_VALUE + 9, 9, Long.MIN_VALUE);
        tripsOf("NEG $3,$1", Long.MIN_VALUE, 1, OVERFLOW, 1, Long.MIN_VALUE, 0, Long.MIN_VALUE);
        tripsOf("SL $3,$1,$2", 1, 63, OVERFLOW, 1, Long.MIN_VALUE, 1, 63);
        tripsOf("SL $3,$1,$2", 1, -1, OVERFLOW, 1, 0, 1, -1);
        tripsOf("STB $1,$2,3", 128, 2000, OVERFLOW, 1, 0, 2003, 128);
        tripsOf("STW $1,$2,3", 40000, 2000, OVERFLOW, 1, 0, 2002, 40000);
        tripsOf("STT $1,$2,3", 1L << 31, 2000, OVERFLOW, 1, 0, 2000, 1L << 31);
        otherEnabled();
        intoLast();
        trip();
        resume();
        Kit.end();
    }

    private static void gathered() {
        LittleMix mix = Kit.with(" DIV $1,$2,0", " SETH $3,#8000", " SUB $4,$3,1", " ADDU $4,$3,$3", " NEGU $4,$3", " SLU $4,$3,1", " STBU $3,$255,0");
        mix.run(2);
        Kit.due("D", mix.special(21), 128);
        mix.run(1);
        Kit.due("D and V", mix.special(21), 192);
        mix.run(4);
        Kit.due("U has no events", mix.special(21), 192);
        LittleMix silent = Kit.with(" SETH $3,#8000", " ADDU $4,$3,$3", " SUBU $4,$255,$3", " NEGU $4,$3", " SLU $4,$3,1", " MULU $4,$3,$3", " STTU $3,$255,0", " STO $3,$255,0", " DIVU $1,$3,0",
                " INCH $3,#8000", " 2ADDU $3,$3,$3");
        Kit.due("run", silent.run(11), 11);
        Kit.due("no event", silent.special(21), 0);
    }

    /** The event of one instruction: not ENABLED first, then with it; the stores leave $3 as it is, MARGINAL. */
    private static void tripsOf(String code, long one, long two, int event, int cost, long x, long y, long z) {
        LittleMix mix = Kit.with(" SETL $5,2048", " LDO $1,$5,0", " LDO $2,$5,8", " LDO $6,$5,16", " SETL $255,55", " PUT rJ,44", " PUT rA,$6", " " + code);
        for (int enabled = 0; enabled < 2; enabled++) {
            Kit.store(mix, 2048, one);
            Kit.store(mix, 2056, two);
            Kit.store(mix, 2064, enabled * 256L * event);
            mix.back();
            mix.run(7);
            int oops = mix.taken(0);
            Kit.due(code + ": run", mix.run(1), 1);
            Kit.due(code + ": x", mix.register(3), x);
            Kit.due(code + ": rA", mix.special(21), enabled == 0 ? event : 256L * event);
            Kit.due(code + ": oops", mix.taken(0) - oops, cost + 5 * enabled);
            Kit.due(code + ": place", mix.place(), enabled == 0 ? 288 : event == BY_ZERO ? 16 : 32);
            Kit.due(code + ": rB", mix.special(0), 55L * enabled);
            Kit.due(code + ": $255", mix.register(255), enabled == 0 ? 55 : 44);
            Kit.due(code + ": rW", mix.special(24), 288L * enabled);
            Kit.due(code + ": rX", mix.special(25), enabled * (Kit.bytes(mix, 284, 4) + Long.MIN_VALUE));
            Kit.due(code + ": rY", mix.special(26), y * enabled);
            Kit.due(code + ": rZ", mix.special(27), z * enabled);
            Kit.due(code + ": rJ", mix.special(4), 44);
        }
    }

    private static void otherEnabled() {
        LittleMix mix = Kit.with(" SETL $1,#4000", " PUT rA,$1", " DIV $2,$1,0", " SETL $1,#8000", " PUT rA,$1", " SETH $2,#8000", " SUB $2,$2,1");
        mix.run(3);
        Kit.due("D with V enabled", mix.special(21), 0x4080);
        Kit.due("place", mix.place(), 268);
        mix.run(4);
        Kit.due("V with D enabled", mix.special(21), 0x8040);
        Kit.due("place", mix.place(), 284);
    }

    private static void intoLast() {
        LittleMix mix = Kit.with(" SETL $1,#4000", " PUT rA,$1", " SETH $2,#8000", " ADD $255,$2,$2", " TRAP 0", " LOC 32", " SWYM");
        mix.run(4);
        Kit.due("rB is x, for it TRIPS behind the instruction", mix.special(0), 0);
        LittleMix stored = Kit.with(" SETL $1,#4000", " PUT rA,$1", " SETL $2,2000", " STB $2,$2,0");
        stored.run(4);
        Kit.due("stored all the same", stored.byteAt(2000), 208);
        Kit.due("place", stored.place(), 32);
        LittleMix seven = Kit.with(" SETL $1,#4000", " PUT rA,$1", " SETH $2,#7fff", " ADD $255,$2,$2");
        seven.run(4);
        Kit.due("rB", seven.special(0), 0xfffeL << 48);
    }

    private static void trip() {
        LittleMix mix = Kit.with(" SETL $1,11", " SETL $2,22", " SETL $255,5", " PUT rJ,4", " TRIP 9,1,2");
        mix.run(5);
        Kit.due("place", mix.place(), 0);
        Kit.due("rB", mix.special(0), 5);
        Kit.due("$255", mix.register(255), 4);
        Kit.due("rW", mix.special(24), 276);
        Kit.due("rX", mix.special(25), 0xff090102L + Long.MIN_VALUE);
        Kit.due("rY", mix.special(26), 11);
        Kit.due("rZ", mix.special(27), 22);
        Kit.due("rA", mix.special(21), 0);
        Kit.due("oops", mix.taken(0), 9);
    }

    private static void resume() {
        LittleMix mix = Kit.with(" TRIP 1,2,3", " SETL $1,7", " TRAP 0", " LOC 0", " RESUME 1");
        Kit.due("run", mix.run(10), 3);
        Kit.due("it goes on at rW", mix.register(1), 7);
        Kit.due("rB stays", mix.special(0), 0);
        Kit.due("oops", mix.taken(0), 11);
        LittleMix far = Kit.with(" NEG $1,8", " PUT rW,$1", " RESUME");
        Kit.due("run", far.run(10), 3);
        Kit.due("beyond memory", far.place(), -8);
        Kit.due("stopped", far.stopped(), 4);
    }
}
