/** The boundary cases of EVENTS and of what IT TAKES, sentence by sentence. */
public final class EventEdgesTest {
    private static final int D = 128;
    private static final int V = 64;

    public static void main(String[] args) {
        enabled();
        otherBits();
        gathered();
        tripped();
        noEvent();
        behindTheInstruction();
        reckonedWith();
        trip();
        resume();
        oops();
        conditions();
        tripsTakeMore();
        mems();
        whatStopsTakesNothing();
        Kit.end();
    }

    /** About to execute the code at 300, with rA, y in $0 and z in $1. */
    private static LittleMix with(long rA, long y, long z, String code) {
        return with(rA, y, z, code, 33, 44);
    }

    private static LittleMix with(long rA, long y, long z, String code, long last, long rJ) {
        LittleMix mix = Kit.loaded(new long[] {y, z, rA, last, rJ}, " PUT rJ,$4", " ADDU $255,$3,0", " PUT rA,$2", " JMP 300", " LOC 300", " " + code);
        Kit.due("before", mix.run(4), 4);
        Kit.due("rA", mix.special(21), rA & 262143);
        return mix;
    }

    private static void gets(long rA, long y, long z, String code, long after) {
        LittleMix mix = with(rA, y, z, code);
        Kit.due("run", mix.run(1), 1);
        Kit.due(code + " with " + rA + ": rA", mix.special(21), after);
        Kit.due(code + " with " + rA + ": place", mix.place(), 304);
        Kit.due(code + " with " + rA + ": rW", mix.special(24), 0);
        Kit.due(code + " with " + rA + ": rB", mix.special(0), 0);
        Kit.due(code + " with " + rA + ": $255", mix.register(255), 33);
    }

    private static void trips(long rA, long y, long z, String code, int target) {
        LittleMix mix = with(rA, y, z, code);
        Kit.due("run", mix.run(1), 1);
        Kit.due(code + " with " + rA + ": rA stays", mix.special(21), rA);
        Kit.due(code + " with " + rA + ": place", mix.place(), target);
        Kit.due(code + " with " + rA + ": rW", mix.special(24), 304);
        Kit.due(code + " with " + rA + ": rB", mix.special(0), 33);
        Kit.due(code + " with " + rA + ": $255", mix.register(255), 44);
        Kit.due(code + " with " + rA + ": rX", mix.special(25), Kit.bytes(mix, 300, 4) + Long.MIN_VALUE);
    }

    private static void enabled() {
        Kit.says("D is 128, V 64 in rA; if 256 times that is in rA (ENABLED), it TRIPS");
        String add = "ADD $5,$0,$1";
        String div = "DIV $5,$0,$1";
        long most = Long.MAX_VALUE;
        for (int bit = 0; bit < 18; bit++) {
            long rA = 1L << bit;
            if (rA == 256 * V) {
                trips(rA, most, 1, add, 32);
            } else {
                gets(rA, most, 1, add, rA | V);
            }
            if (rA == 256 * D) {
                trips(rA, 5, 0, div, 16);
            } else {
                gets(rA, 5, 0, div, rA | D);
            }
        }
        trips(262143, most, 1, add, 32);
        trips(262143, 5, 0, div, 16);
        gets(262143 - 256 * V, most, 1, add, 262143 - 256 * V);
        gets(262143 - 256 * D, 5, 0, div, 262143 - 256 * D);
    }

    private static void otherBits() {
        Kit.says("PUT: rA its lowest 18 bits; if 256 times that is in rA (ENABLED)");
        LittleMix beyond = Kit.loaded(new long[] {1L << 18, Long.MAX_VALUE}, " PUT rA,$0", " ADD $1,$1,1");
        beyond.run(2);
        Kit.due("nothing is enabled", beyond.place(), 276);
        Kit.due("rA", beyond.special(21), V);
    }

    private static void gathered() {
        Kit.says("Else rA gets it");
        gets(0, Long.MAX_VALUE, 1, "ADD $5,$0,$1", V);
        gets(V, Long.MAX_VALUE, 1, "ADD $5,$0,$1", V);
        gets(D, Long.MAX_VALUE, 1, "ADD $5,$0,$1", D | V);
        gets(D | V, 5, 0, "DIV $5,$0,$1", D | V);
        gets(0, Long.MIN_VALUE, -1, "DIV $5,$0,$1", V);
        trips(256 * V | V, Long.MAX_VALUE, 1, "ADD $5,$0,$1", 32);
        trips(256 * D | V | D, 5, 0, "DIV $5,$0,$1", 16);
    }

    private static void tripped() {
        Kit.says("it goes on at 16 (D), 32 (V)");
        trips(256 * D, 0, 0, "DIV $5,$0,$1", 16);
        trips(256 * (D + V), Long.MIN_VALUE, -1, "DIV $5,$0,$1", 32);
        trips(256 * V, Long.MIN_VALUE, -1, "DIV $5,$0,$1", 32);
        gets(256 * D, Long.MIN_VALUE, -1, "DIV $5,$0,$1", 256 * D | V);
        gets(256 * V, 5, 0, "DIV $5,$0,$1", 256 * V | D);
        String[] codes = {"MUL $5,$0,$1", "ADD $5,$0,$0", "SUB $5,$1,$0", "NEG $5,$0", "SL $5,$0,1", "STB $0,$1,0", "STW $0,$1,0", "STT $0,$1,0"};
        for (String code : codes) {
            trips(256 * V, Long.MIN_VALUE, 3000, code, 32);
            gets(256 * D, Long.MIN_VALUE, 3000, code, 256 * D | V);
        }
    }

    private static void noEvent() {
        Kit.says("it TRIPS (only by an event)");
        String[] codes = {"MULU $5,$0,$0", "ADDU $5,$0,$0", "SUBU $5,$1,$0", "NEGU $5,$0", "SLU $5,$0,1", "STBU $0,$1,0", "STWU $0,$1,0", "STTU $0,$1,0", "STO $0,$1,0", "DIVU $5,$0,0", "16ADDU $5,$0,$0", "SR $5,$0,64",
            "INCH $0,#8000", "LDB $5,$1,0", "CMP $5,$0,$1"};
        for (String code : codes) {
            gets(262143, Long.MIN_VALUE, 3000, code, 262143);
        }
    }

    private static void behindTheInstruction() {
        Kit.says("behind the instruction rB becomes $255, $255 becomes rJ, rW where it would go on");
        LittleMix into = with(256 * V, Long.MAX_VALUE, 7, "ADD $255,$0,$1");
        into.run(1);
        Kit.due("rB is what was reckoned", into.special(0), Long.MIN_VALUE + 6);
        Kit.due("$255", into.register(255), 44);
        LittleMix rest = with(256 * D, 9, 0, "DIV $5,$0,$1");
        rest.run(1);
        Kit.due("x", rest.register(5), 0);
        Kit.due("rR", rest.special(6), 9);
        LittleMix stored = with(256 * V, 0x1ff, 3000, "STB $0,$1,0");
        stored.run(1);
        Kit.due("stored", stored.byteAt(3000), 255);
        Kit.due("rL stays", stored.special(20), 5);
        LittleMix marginal = with(256 * V, Long.MAX_VALUE, 7, "ADD $9,$0,$1");
        marginal.run(1);
        Kit.due("x is LOCAL", marginal.special(20), 10);
        for (long value : new long[] {-1, Long.MIN_VALUE}) {
            LittleMix wide = with(256 * V, Long.MAX_VALUE, 7, "ADD $5,$0,$1", value, value - 1);
            wide.run(1);
            Kit.due("rB", wide.special(0), value);
            Kit.due("$255", wide.register(255), value - 1);
            Kit.due("rJ stays", wide.special(4), value - 1);
        }
    }

    private static void yAndZ(long y, long z, String code, long rY, long rZ) {
        LittleMix mix = with(256 * (D + V), y, z, code);
        mix.run(1);
        Kit.due(code + " TRIPS", mix.special(24), 304);
        Kit.due(code + ": rY", mix.special(26), rY);
        Kit.due(code + ": rZ", mix.special(27), rZ);
    }

    private static void reckonedWith() {
        Kit.says("An event's y and z are those that were reckoned with (NEG: Y and z; stores: the place and x)");
        long most = Long.MAX_VALUE;
        long least = Long.MIN_VALUE;
        yAndZ(most, 1, "ADD $0,$0,$1", most, 1);
        yAndZ(most, 1, "ADD $1,$0,$1", most, 1);
        yAndZ(most, 1, "ADD $1,$0,255", most, 255);
        yAndZ(least, 1, "SUB $0,$0,$1", least, 1);
        yAndZ(most, 2, "MUL $0,$0,$1", most, 2);
        yAndZ(5, 0, "DIV $0,$0,$1", 5, 0);
        yAndZ(least, -1, "DIV $1,$0,$1", least, -1);
        yAndZ(least, 1, "NEG $0,0,$0", 0, least);
        yAndZ(least, 1, "NEG $0,255,$0", 255, least);
        yAndZ(1, -1, "SL $0,$0,$1", 1, -1);
        yAndZ(3, 1, "SL $0,$0,255", 3, 255);
        yAndZ(300, 3000, "STB $0,$1,7", 3007, 300);
        yAndZ(70000, 3000, "STW $0,$1,6", 3006, 70000);
        yAndZ(1L << 31, 3000, "STT $0,$1,8", 3008, 1L << 31);
        yAndZ(3000, 0, "STB $0,$0,0", 3000, 3000);
        yAndZ(least, 0, "STB $0,$1,255", 255, least);
    }

    private static void trip() {
        Kit.says("TRIP does that, too, to 0 (y, z: $Y, $Z)");
        for (String rest : new String[] {"0,0,1", "255,1,0", "0,255,255", "1,9,9", "0,0,0"}) {
            String[] xyz = rest.split(",");
            LittleMix mix = with(5, 7, -8, "TRIP " + rest);
            long y = mix.register(Integer.parseInt(xyz[1]));
            long z = mix.register(Integer.parseInt(xyz[2]));
            Kit.due("run", mix.run(1), 1);
            Kit.due("place", mix.place(), 0);
            Kit.due("rB", mix.special(0), 33);
            Kit.due("$255", mix.register(255), 44);
            Kit.due("rW", mix.special(24), 304);
            Kit.due("rX of " + rest, mix.special(25), Kit.bytes(mix, 300, 4) + Long.MIN_VALUE);
            Kit.due("rY of " + rest, mix.special(26), y);
            Kit.due("rZ of " + rest, mix.special(27), z);
            Kit.due("rA", mix.special(21), 5);
            Kit.due("rL", mix.special(20), 5);
        }
        LittleMix bare = Kit.with(" TRIP");
        bare.run(1);
        Kit.due("rX of TRIP alone", bare.special(25), 0xff000000L + Long.MIN_VALUE);
    }

    private static void resume() {
        Kit.says("RESUME: it goes on at rW");
        for (long rW : new long[] {0, 4, 301, 4092, 4096, -4, Long.MIN_VALUE, Long.MAX_VALUE}) {
            LittleMix mix = Kit.loaded(new long[] {rW}, " PUT rW,$0", " RESUME 1,2,3");
            Kit.due("run", mix.run(2), 2);
            Kit.due("place", mix.place(), rW);
            Kit.due("rW stays", mix.special(24), rW);
            Kit.due("rL stays", mix.special(20), 1);
            Kit.due("not stopped yet", mix.stopped(), 0);
        }
    }

    private static void takes(String code, int oops) {
        LittleMix mix = with(0, 3, 4, code);
        int before = mix.taken(0);
        int mems = mix.taken(1);
        Kit.due("run", mix.run(1), 1);
        Kit.due(code + ": oops", mix.taken(0) - before, oops);
        boolean remembers = code.startsWith("LD") || code.startsWith("ST");
        Kit.due(code + ": mems", mix.taken(1) - mems, remembers ? 1 : 0);
    }

    private static void oops() {
        Kit.says("IT TAKES oops: 1; MUL, MULU 10; DIV, DIVU 60; POP 3; RESUME, TRIP 5");
        for (String group : AssembleTest.PAIRS.split(";")) {
            String[] names = group.split(" ");
            for (int i = 1; i < names.length; i++) {
                int oops = names[i].startsWith("MUL") ? 10 : names[i].startsWith("DIV") ? 60 : 1;
                takes(names[i] + " $5,$0,$1", oops);
                takes(names[i] + " $5,$0,1", oops);
            }
        }
        for (String name : AssembleTest.WIDE.split(" ")) {
            takes(name + " $5,1", 1);
        }
        for (String code : new String[] {"NEG $5,$0", "NEGU $5,1", "STCO 1,$0,1", "JMP @", "JMP @-4", "PUSHJ $5,@", "PUSHJ $5,@-4", "GETA $5,@", "GETA $5,@-4", "PUT rA,$0", "PUT rG,1", "GET $5,rA", "SWYM", "TRAP 1",
            "TRAP 0,1", "TRAP 255,255,255"}) {
            takes(code, 1);
        }
        takes("RESUME", 5);
        takes("RESUME 1", 5);
        takes("TRIP", 5);
        takes("TRIP 0,1,2", 5);
        for (int x = 0; x < 3; x++) {
            LittleMix pop = Kit.with(" PUSHJ $1,@+4", " POP " + x + ",0");
            pop.run(1);
            Kit.due("PUSHJ", pop.taken(0), 1);
            pop.run(1);
            Kit.due("POP", pop.taken(0), 4);
        }
    }

    private static void conditions() {
        Kit.says("B with its condition 3, PB without 3");
        String[] so = {"Z", "NN", "NP", "EV"};
        String[] not = {"N", "P", "OD", "NZ"};
        for (String condition : so) {
            takes("B" + condition + " $6,@", 3);
            takes("B" + condition + " $6,@-4", 3);
            takes("PB" + condition + " $6,@", 1);
            takes("PB" + condition + " $6,@-4", 1);
            takes("CS" + condition + " $6,$6,1", 1);
        }
        for (String condition : not) {
            takes("B" + condition + " $6,@", 1);
            takes("B" + condition + " $6,@-4", 1);
            takes("PB" + condition + " $6,@", 3);
            takes("PB" + condition + " $6,@-4", 3);
            takes("ZS" + condition + " $6,$6,1", 1);
        }
    }

    private static void more(String code, long y, long z, int oops, int mems) {
        for (long rA : new long[] {0, 256 * (D + V)}) {
            LittleMix mix = with(rA, y, z, code);
            int before = mix.taken(0);
            int remembered = mix.taken(1);
            mix.run(1);
            Kit.due(code + " with " + rA + ": oops", mix.taken(0) - before, rA == 0 ? oops : oops + 5);
            Kit.due(code + " with " + rA + ": mems", mix.taken(1) - remembered, mems);
        }
    }

    private static void tripsTakeMore() {
        Kit.says("what TRIPS by an event 5 more");
        more("ADD $5,$0,$0", Long.MIN_VALUE, 0, 1, 0);
        more("SUB $5,$0,1", Long.MIN_VALUE, 0, 1, 0);
        more("NEG $5,$0", Long.MIN_VALUE, 0, 1, 0);
        more("SL $5,$0,1", Long.MIN_VALUE, 0, 1, 0);
        more("MUL $5,$0,2", Long.MIN_VALUE, 0, 10, 0);
        more("DIV $5,$0,0", 5, 0, 60, 0);
        more("DIV $5,$0,$1", Long.MIN_VALUE, -1, 60, 0);
        more("STB $0,$1,0", 4000, 3000, 1, 1);
        more("STT $0,$1,0", Long.MIN_VALUE, 3000, 1, 1);
    }

    private static void mems() {
        Kit.says("and mems: 1 for each load and store");
        LittleMix mix = Kit.with(" SETL $0,3000", " LDB $1,$0,0", " LDBU $1,$0,0", " LDW $1,$0,0", " LDWU $1,$0,0", " LDT $1,$0,0", " LDTU $1,$0,0", " LDO $1,$0,0", " STB $1,$0,0", " STBU $1,$0,0", " STW $1,$0,0",
                " STWU $1,$0,0", " STT $1,$0,0", " STTU $1,$0,0", " STO $1,$0,0", " STCO 1,$0,0", " SWYM", " PUSHJ $3,@+4", " GET $1,rJ");
        for (int i = 0; i < 19; i++) {
            mix.run(1);
            Kit.due("behind step " + i, mix.taken(1), Math.min(i, 15));
            Kit.due("oops behind step " + i, mix.taken(0), i + 1);
        }
        mix.back();
        Kit.due("SET BACK", mix.taken(1), 0);
        Kit.due("SET BACK", mix.taken(0), 0);
        LittleMix loop = Kit.with(" LDO $1,$2,0", " DIV $1,$1,0", " JMP 256");
        for (int i = 1; i <= 4; i++) {
            Kit.due("run", loop.run(4998), 4998);
            Kit.due("oops", loop.taken(0), 1666 * 62 * i);
            Kit.due("mems", loop.taken(1), 1666 * i);
        }
    }

    private static void whatStopsTakesNothing() {
        Kit.says("(Nothing else is changed then)");
        for (String code : new String[] {"TRAP 0,0,0", "POP 1,1", "PUSHJ $255,@", "LDO $5,$0,0", "STB $0,$0,0"}) {
            boolean push = code.startsWith("PUSHJ");
            LittleMix mix = push ? Kit.with(" PUSHJ $0,256") : with(0, 4096, 0, code);
            if (push) {
                mix.run(300);
            }
            int oops = mix.taken(0);
            int mems = mix.taken(1);
            Kit.due(code, mix.run(1), 0);
            Kit.due(code + ": oops", mix.taken(0), oops);
            Kit.due(code + ": mems", mix.taken(1), mems);
        }
    }
}
