import java.util.function.Supplier;

/** The boundary cases of THE MACHINE, of what STOPS it, and of PUT, sentence by sentence. */
public final class MachineEdgesTest {
    public static void main(String[] args) {
        kindsOfRegisters();
        marginal();
        setBack();
        notTold();
        notSpecial();
        tooLong();
        nothingToPop();
        instructionsOutside();
        bytesOutside();
        trap();
        forGood();
        global();
        becomingGlobal();
        local();
        eventBits();
        Kit.end();
    }

    /** About to execute the word at 2000, with something in each part of the machine. */
    private static LittleMix before(int word) {
        LittleMix mix = Kit.with(" SETL $255,2048", " PUT rG,200", " SETL $200,5", " SETL $254,6", " SETL $4,3", " STO $4,$255,8", " PUSHJ $2,@+4", " SETL $1,12", " PUT rM,7", " PUT rD,8", " DIV $3,$1,0",
                " PUT rB,3", " JMP 2000");
        mix.store(2000, word, 0xfd000000);
        Kit.due("before", mix.run(13), 13);
        return mix;
    }

    private static LittleMix stopped(int word, int why) {
        LittleMix mix = before(word);
        Kit.due("run of " + Integer.toHexString(word), mix.run(10), 0);
        Kit.due("why of " + Integer.toHexString(word), mix.stopped(), why);
        Kit.due("where", mix.place(), 2000);
        return mix;
    }

    private static void stops(int word, int why) {
        Snapshot.same(Integer.toHexString(word), () -> before(word), () -> stopped(word, why), Snapshot.STOPPED);
    }

    private static void goesOn(int word) {
        LittleMix mix = before(word);
        Kit.due("run of " + Integer.toHexString(word), mix.run(1), 1);
        Kit.due("not stopped by " + Integer.toHexString(word), mix.stopped(), 0);
    }

    private static void kindsOfRegisters() {
        Kit.says("from rG on they are GLOBAL; below rL LOCAL; between MARGINAL");
        for (int rG : new int[] {32, 100, 254, 255}) {
            LittleMix mix = Kit.with(" PUT rG," + rG, " SETL $" + rG + ",1", " SETL $255,2", " SETL $" + (rG - 2) + ",3", " SETL $" + (rG - 1) + ",4", " SETL $0,5");
            mix.run(3);
            Kit.due("GLOBAL ones leave rL", mix.special(20), 0);
            mix.run(1);
            Kit.due("the last but one", mix.special(20), rG - 1);
            mix.run(1);
            Kit.due("the last that can be LOCAL", mix.special(20), rG);
            mix.run(1);
            Kit.due("a LOCAL one leaves rL", mix.special(20), rG);
            Kit.due("$0", mix.register(0), 5);
            Kit.due("$rG - 1", mix.register(rG - 1), 4);
            Kit.due("$rG", mix.register(rG), rG == 255 ? 2 : 1);
            Kit.due("$255", mix.register(255), 2);
        }
    }

    private static void marginal() {
        Kit.says("read as 0; when one is written, it and those below become LOCAL, being 0 before");
        LittleMix mix = Kit.with(" SETL $5,7", " PUT rL,5", " ADDU $4,$5,1", " ADDU $6,$5,$5", " SETL $3,9", " SETL $8,1", " PUT rL,0", " SETL $0,4", " SETL $8,2");
        mix.run(1);
        Kit.due("rL", mix.special(20), 6);
        mix.run(1);
        Kit.due("$5 is MARGINAL", mix.register(5), 0);
        mix.run(1);
        Kit.due("read as 0", mix.register(4), 1);
        Kit.due("writing the last LOCAL one", mix.special(20), 5);
        mix.run(1);
        Kit.due("writing $6", mix.special(20), 7);
        Kit.due("$5 is 0, not as it was", mix.register(5), 0);
        Kit.due("$4 stays", mix.register(4), 1);
        mix.run(2);
        Kit.due("writing $8", mix.special(20), 9);
        Kit.due("$7", mix.register(7), 0);
        mix.run(2);
        Kit.due("writing $0", mix.special(20), 1);
        for (int k = 1; k < 9; k++) {
            Kit.due("$" + k + " is MARGINAL", mix.register(k), 0);
        }
        mix.run(1);
        Kit.due("writing $8 again", mix.special(20), 9);
        Kit.due("$0 stays", mix.register(0), 4);
        for (int k = 1; k < 8; k++) {
            Kit.due("$" + k + " is 0", mix.register(k), 0);
        }
        LittleMix one = Kit.with(" INCL $0,1", " ORL $1,2", " ANDNL $2,3", " CSZ $3,$9,$0", " CSN $9,$9,$0", " ZSN $4,$9,1");
        int[] rL = {1, 2, 3, 4, 4, 5};
        for (int i = 0; i < rL.length; i++) {
            one.run(1);
            Kit.due("step " + i, one.special(20), rL[i]);
        }
    }

    private static void setBack() {
        Kit.says("SET BACK all is 0, but rG is 255, and it goes on at 256");
        Supplier<LittleMix> fresh = () -> {
            LittleMix mix = Kit.with(" SWYM");
            mix.store(2000, 0x01000000, 0xfd000000);
            mix.store(2056, 0, 3);
            return mix;
        };
        Snapshot.same("back behind a stop", fresh, () -> {
            LittleMix mix = stopped(0x01000000, 1);
            // the memory and the labels are to be the same as those of the other
            for (int place = 256; place < 320; place += 8) {
                mix.store(place, place == 256 ? 0xfd000000 : 0, 0);
            }
            mix.back();
            return mix;
        });
    }

    private static void notTold() {
        Kit.says("It STOPS for good with 1 an instruction that isn't told here (Nothing else is changed then, and it stays at that instruction)");
        for (int op : new int[] {1, 23, 142, 159, 174, 179, 182, 191, 250, 252}) {
            stops(op << 24 | 0x010203, 1);
        }
        for (int op : new int[] {24, 141, 173, 181, 192, 249, 253, 255}) {
            goesOn(op << 24 | 0x010204);
        }
        for (int op : new int[] {160, 180}) {
            goesOn(op << 24 | 0x01ff00);
        }
    }

    private static void notSpecial() {
        Kit.says("1 .. or a SPECIAL number that isn't");
        for (int k : new int[] {2, 7, 18, 22, 23, 28, 255}) {
            stops(0xf7000001 | k << 16, 1);
            stops(0xf6000001 | k << 16, 1);
            stops(0xfe090000 | k, 1);
        }
        for (int k : new int[] {0, 1, 3, 6, 19, 21, 24, 27}) {
            goesOn(0xf7000001 | k << 16);
            goesOn(0xf6000001 | k << 16);
            goesOn(0xfe090000 | k);
        }
    }

    private static void tooLong() {
        Kit.says("THE STACK holds at most 300 numbers; 2 the stack would be too long");
        Supplier<LittleMix> two = () -> {
            LittleMix mix = Kit.with(" SETL $5,7", " PUSHJ $150,@+4", " SETL $6,3", " PUSHJ $147,@+4", " SETL $2,9", " PUSHJ $1,2000");
            Kit.due("299 numbers", mix.run(5), 5);
            Kit.due("stack", mix.taken(2), 299);
            return mix;
        };
        Snapshot.same("301 numbers", two, () -> {
            LittleMix mix = two.get();
            Kit.due("run", mix.run(1), 0);
            Kit.due("why", mix.stopped(), 2);
            return mix;
        }, Snapshot.STOPPED);
        LittleMix one = two.get();
        one.store(272, 0xe3020009, 0xf2000001);
        Kit.due("300 numbers", one.run(1), 1);
        Kit.due("stack", one.taken(2), 300);
        Kit.due("not stopped", one.stopped(), 0);
        LittleMix far = Kit.with(" SETL $1,7", " PUSHJ $254,@+4", " PUSHJ $44,@+4", " PUSHJ $43,@+4", " PUSHJ $0,@+4");
        Kit.due("255 numbers, 45 more are 300", far.run(3), 3);
        Kit.due("stack", far.taken(2), 300);
        Kit.due("44 more", far.run(3), 0);
        Kit.due("why", far.stopped(), 2);
        LittleMix local = Kit.with(" SETL $9,7", " PUSHJ $254,@+4", " SETL $44,1", " PUSHJ $255,@+4");
        Kit.due("X is rL, 45: 46 numbers more", local.run(9), 3);
        Kit.due("why", local.stopped(), 2);
        LittleMix fits = Kit.with(" SETL $9,7", " PUSHJ $254,@+4", " SETL $43,1", " PUSHJ $255,@+4");
        Kit.due("X is rL, 44: 45 numbers more", fits.run(4), 4);
        Kit.due("stack", fits.taken(2), 300);
    }

    private static void nothingToPop() {
        Kit.says("3 POP without a number on the stack");
        Supplier<LittleMix> empty = () -> {
            LittleMix mix = Kit.with(" SETL $5,7", " PUT rJ,8", " PUSHJ $0,@+4", " POP 1,0", " POP 1,5");
            Kit.due("with one number on it", mix.run(4), 4);
            Kit.due("none is left", mix.taken(2), 0);
            Kit.due("place", mix.place(), 268);
            mix.store(264, 0xf2000001, 0xf8010005);
            return mix;
        };
        Snapshot.same("POP", empty, () -> {
            LittleMix mix = empty.get();
            Kit.due("run", mix.run(1), 0);
            Kit.due("why", mix.stopped(), 3);
            return mix;
        }, Snapshot.STOPPED);
        for (int x : new int[] {0, 1, 255}) {
            Kit.due("POP " + x, Kit.ran(" POP " + x + ",0").stopped(), 3);
        }
    }

    private static LittleMix at(long place) {
        LittleMix mix = Kit.loaded(new long[] {place}, " PUT rW,$0", " RESUME");
        // SWYM wherever an instruction may begin there
        mix.store(0, 0xfd000000, 0xfd000000);
        mix.store(4088, 0xfd000000, 0xfd000000);
        Kit.due("run", mix.run(2), 2);
        return mix;
    }

    private static void instructionsOutside() {
        Kit.says("4 an instruction that doesn't lie within MEMORY");
        for (long place : new long[] {0, 4, 4088, 4092}) {
            LittleMix mix = at(place);
            Kit.due("at " + place, mix.run(1), 1);
            Kit.due("then", mix.place(), place + 4);
        }
        for (long place : new long[] {-1, -3, -4, 4093, 4095, 4096, 1L << 32, 256 + (1L << 32), Long.MAX_VALUE, Long.MAX_VALUE - 3, Long.MIN_VALUE, Long.MIN_VALUE + 256}) {
            Snapshot.same("at " + place, () -> at(place), () -> {
                LittleMix mix = at(place);
                Kit.due("at " + place, mix.run(5), 0);
                Kit.due("why", mix.stopped(), 4);
                return mix;
            }, Snapshot.STOPPED);
        }
        LittleMix end = Kit.with(" JMP 4092", " LOC 4092", " SWYM");
        Kit.due("over the end", end.run(9), 2);
        Kit.due("why", end.stopped(), 4);
        Kit.due("where", end.place(), 4096);
    }

    private static void bytesOutside() {
        Kit.says("4 bytes that don't lie within MEMORY");
        String[] names = {"LDB", "LDBU", "LDW", "LDWU", "LDT", "LDTU", "LDO", "STB", "STBU", "STW", "STWU", "STT", "STTU", "STO", "STCO"};
        for (String name : names) {
            String line = " " + name + (name.equals("STCO") ? " 1" : " $3") + ",$0,$1";
            for (long place : new long[] {0, 1, 7, 4088, 4094, 4095}) {
                LittleMix mix = Kit.loaded(new long[] {place - 5, 5, 0, 8}, line);
                Kit.due(name + " at " + place, mix.run(1), 1);
                Kit.due("mems", mix.taken(1), 5);
            }
            for (long place : new long[] {-1, -8, 4096, 4097, 1L << 32, Long.MAX_VALUE, Long.MIN_VALUE}) {
                LittleMix mix = Kit.loaded(new long[] {place - 5, 5, 0, 8}, line);
                Kit.due(name + " at " + place, mix.run(1), 0);
                Kit.due("why", mix.stopped(), 4);
                Kit.due("mems", mix.taken(1), 4);
                Kit.due("oops", mix.taken(0), 5);
                Kit.due("$3", mix.register(3), 8);
                Kit.due("rA", mix.special(21), 0);
                Kit.due("where", mix.place(), 276);
            }
        }
        for (String name : names) {
            // $9 is MARGINAL, and what $1 holds would be an event
            String first = name.equals("STCO") ? "1" : name.startsWith("L") ? "$9" : "$1";
            for (long place : new long[] {-1, 4096}) {
                Supplier<LittleMix> outside = () -> Kit.loaded(new long[] {place, 1L << 40}, " " + name + " " + first + ",$0,0");
                Snapshot.same(name + " at " + place, outside, () -> {
                    LittleMix mix = outside.get();
                    Kit.due("run", mix.run(1), 0);
                    Kit.due("why", mix.stopped(), 4);
                    return mix;
                }, Snapshot.STOPPED);
            }
        }
    }

    private static void trap() {
        Kit.says("5 TRAP with X and Y 0; TRAP with others: nothing");
        stops(0, 5);
        stops(1, 5);
        stops(255, 5);
        for (int word : new int[] {0x000100, 0x00ff00, 0x010000, 0xff0000, 0x010100, 0xffffff}) {
            Supplier<LittleMix> swym = () -> {
                LittleMix other = before(0xfd000000);
                other.run(1);
                other.store(2000, word, 0xfd000000);
                return other;
            };
            Snapshot.same("TRAP " + word, swym, () -> {
                LittleMix other = before(word);
                Kit.due("run", other.run(1), 1);
                return other;
            });
        }
    }

    private static void forGood() {
        Kit.says("It STOPS for good");
        LittleMix mix = Kit.with(" SWYM", " TRAP 0", " SWYM", " SWYM");
        Kit.due("run", mix.run(5), 1);
        mix.store(256, 0xfd000000, 0xfd000000);
        Kit.due("with another instruction there", mix.run(5), 0);
        Kit.due("ILL", Kit.assemble(mix, " NIX"), 1);
        Kit.due("behind an ILL source", mix.run(5), 0);
        Kit.due("refused", mix.assemble(100), LittleMix.NONE);
        Kit.due("why", mix.stopped(), 5);
        Kit.due("where", mix.place(), 260);
        mix.back();
        Kit.due("set back", mix.stopped(), 0);
        Kit.due("set back it goes on", mix.run(4), 4);
        Kit.due("then", mix.run(4), 0);
        Kit.due("why", mix.stopped(), 5);
        Kit.due("good", Kit.assemble(mix, " SWYM"), 0);
        Kit.due("with a new source it goes on", mix.run(4), 1);
    }

    private static long put(int special, int rL, long z) {
        String raise = rL > 1 ? " SETL $" + (rL - 1) + ",1" : " SWYM";
        LittleMix mix = Kit.loaded(new long[] {z}, raise, " PUT rG,200", " PUT " + special + ",$0");
        Kit.due("run", mix.run(3), 3);
        Kit.due("rL", special == 20 || mix.special(20) == rL, true);
        return mix.special(special);
    }

    private static void global() {
        Kit.says("PUT: rG 32 .. 255 and not below rL (else nothing)");
        for (long z : new long[] {32, 33, 199, 200, 201, 254, 255}) {
            Kit.due("PUT rG," + z, put(19, 1, z), z);
        }
        for (long z : new long[] {0, 31, 256, -1, -200, Long.MIN_VALUE, Long.MAX_VALUE, 100 + (1L << 32), 356}) {
            Kit.due("PUT rG," + z, put(19, 1, z), 200);
        }
        for (int rL : new int[] {33, 100, 200}) {
            Kit.due("below rL", put(19, rL, rL - 1), 200);
            Kit.due("as rL", put(19, rL, rL), rL);
            Kit.due("above rL", put(19, rL, rL + 1), rL + 1);
        }
        Kit.due("rL 32, rG 31", put(19, 32, 31), 200);
        Kit.due("rL 32, rG 32", put(19, 32, 32), 32);
        Kit.due("rL 31, rG 31", put(19, 31, 31), 200);
        LittleMix mix = Kit.with(" PUT rG,255", " PUT rG,31", " PUT rG,32");
        mix.run(2);
        Kit.due("a number itself, 31", mix.special(19), 255);
        mix.run(1);
        Kit.due("a number itself, 32", mix.special(19), 32);
    }

    private static void becomingGlobal() {
        Kit.says("registers that come to be GLOBAL are 0");
        LittleMix mix = Kit.with(" PUT rG,50", " SETL $50,1", " SETL $60,2", " SETL $61,3", " SETL $255,4", " PUT rG,61", " PUT rG,50", " SETL $49,5", " PUT rG,49", " PUT rG,255", " PUT rG,50");
        mix.run(6);
        Kit.due("$60 is MARGINAL now", mix.register(60), 0);
        Kit.due("$50, too", mix.register(50), 0);
        Kit.due("$61 stays GLOBAL", mix.register(61), 3);
        mix.run(1);
        for (int k = 50; k < 61; k++) {
            Kit.due("$" + k, mix.register(k), 0);
        }
        Kit.due("$61 stays", mix.register(61), 3);
        mix.run(2);
        Kit.due("refused, rL is 50", mix.special(19), 50);
        Kit.due("$49 stays", mix.register(49), 5);
        Kit.due("$61 stays", mix.register(61), 3);
        mix.run(2);
        Kit.due("$61 comes to be GLOBAL", mix.register(61), 0);
        Kit.due("$255 stays", mix.register(255), 4);
        Kit.due("$49 stays", mix.register(49), 5);
    }

    private static void local() {
        Kit.says("PUT: rL at most as it is");
        for (int rL : new int[] {1, 2, 50, 200}) {
            Kit.due("0", put(20, rL, 0), 0);
            Kit.due("one less", put(20, rL, rL - 1), rL - 1);
            for (long z : new long[] {rL, rL + 1, 201, 255, 256, -1, Long.MIN_VALUE, Long.MAX_VALUE, 1L << 32}) {
                Kit.due("rL " + rL + ", put " + z, put(20, rL, z), rL);
            }
        }
        LittleMix mix = Kit.with(" SETL $2,3", " PUT rL,2", " PUT rL,3", " PUT rL,2", " PUT rL,255");
        int[] want = {3, 2, 2, 2, 2};
        for (int rL : want) {
            mix.run(1);
            Kit.due("rL", mix.special(20), rL);
        }
    }

    private static void eventBits() {
        Kit.says("PUT: rA its lowest 18 bits");
        for (long z : new long[] {0, 1, (1 << 18) - 1, 1 << 18, (1 << 18) + 1, -1, Long.MIN_VALUE, Long.MAX_VALUE, 1 << 17}) {
            Kit.due("PUT rA," + z, put(21, 1, z), z & 262143);
        }
        for (int special : new int[] {0, 1, 3, 4, 5, 6, 24, 25, 26, 27}) {
            for (long z : new long[] {0, -1, 1 << 18, Long.MIN_VALUE, Long.MAX_VALUE}) {
                Kit.due("PUT " + special + "," + z, put(special, 1, z), z);
            }
        }
    }
}
