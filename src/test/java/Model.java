import java.math.BigInteger;
import java.util.ArrayList;
import java.util.Arrays;
import java.util.HashMap;
import java.util.LinkedHashMap;
import java.util.List;
import java.util.Map;
import java.util.regex.Matcher;
import java.util.regex.Pattern;

/**
 * The document said once more, as plainly as the Java library lets it be said: texts are read by patterns,
 * numbers are whole numbers of any size, registers and the stack are lists. ModelTest holds LittleMix against it.
 */
final class Model {
    static final Map<String, Integer> NUMBERS = new LinkedHashMap<>();
    static final Map<String, Integer> SPECIALS = new LinkedHashMap<>();
    private static final Map<Integer, String> NAMES = new HashMap<>();
    private static final String[] CONDITIONS = {"N", "Z", "P", "OD", "NN", "NZ", "NP", "EV"};
    private static final String TERM = "(?:\\$?[A-Za-z][A-Za-z0-9]{0,11}(?![A-Za-z0-9])|\\$?[0-9]{1,18}(?![A-Za-z0-9])|\\$?#[0-9A-Fa-f]{1,16}(?![A-Za-z0-9])|@|'.')";
    private static final String SUM = "-?" + TERM + "(?:[+-]" + TERM + ")*";
    private static final Pattern OPERANDS = Pattern.compile("(" + SUM + "(?:," + SUM + ")*)(?: .*)?", Pattern.DOTALL);
    private static final Pattern LINE = Pattern.compile("([A-Za-z][A-Za-z0-9]{0,11})?(?: +(?:([^ ]+)(?: +([^ ].*)?)?)?)?", Pattern.DOTALL);
    private static final BigInteger WHOLE = BigInteger.ONE.shiftLeft(64);

    static {
        String told = "24: MUL 26: MULU 28: DIV 30: DIVU 32: ADD 34: ADDU 36: SUB 38: SUBU 40: 2ADDU 42: 4ADDU 44: 8ADDU 46: 16ADDU 48: CMP 50: CMPU 56: SL 58: SLU 60: SR 62: SRU 192: OR 194: ORN "
                + "196: NOR 198: XOR 200: AND 202: ANDN 204: NAND 206: NXOR 208: BDIF 210: WDIF 212: TDIF 214: ODIF 216: MUX 218: SADD 220: MOR 222: MXOR 52: NEG 54: NEGU 128: LDB 130: LDBU 132: LDW "
                + "134: LDWU 136: LDT 138: LDTU 140: LDO 160: STB 162: STBU 164: STW 166: STWU 168: STT 170: STTU 172: STO 180: STCO 240: JMP 242: PUSHJ 244: GETA 224: SETH 225: SETMH 226: SETML 227: SETL "
                + "228: INCH 229: INCMH 230: INCML 231: INCL 232: ORH 233: ORMH 234: ORML 235: ORL 236: ANDNH 237: ANDNMH 238: ANDNML 239: ANDNL 246: PUT 254: GET 248: POP 249: RESUME 253: SWYM 255: TRIP 0: TRAP";
        Matcher matcher = Pattern.compile("(\\d+): (\\w+)").matcher(told);
        while (matcher.find()) {
            tell(Integer.parseInt(matcher.group(1)), matcher.group(2));
        }
        for (int k = 0; k < 8; k++) {
            tell(64 + 2 * k, "B" + CONDITIONS[k]);
            tell(80 + 2 * k, "PB" + CONDITIONS[k]);
            tell(96 + 2 * k, "CS" + CONDITIONS[k]);
            tell(112 + 2 * k, "ZS" + CONDITIONS[k]);
        }
        Matcher special = Pattern.compile("(r[A-Z]) (\\d+)").matcher("rB 0, rD 1, rH 3, rJ 4, rM 5, rR 6, rG 19, rL 20, rA 21, rW 24, rX 25, rY 26, rZ 27");
        while (special.find()) {
            SPECIALS.put(special.group(1), Integer.parseInt(special.group(2)));
        }
    }

    /** All but these have two numbers. */
    private static void tell(int number, String name) {
        NUMBERS.put(name, number);
        NAMES.put(number, name);
        if (!name.matches("SET.+|INC.+|OR(H|MH|ML|L)|ANDN.+|GET|POP|RESUME|SWYM|TRIP|TRAP")) {
            NAMES.put(number + 1, name);
        }
    }

    /** An operand, or a label: a register or a number; not right if it can't be told. */
    private record Value(boolean right, boolean register, BigInteger number) {
        boolean within(long least, long most) {
            return right && number.compareTo(BigInteger.valueOf(least)) >= 0 && number.compareTo(BigInteger.valueOf(most)) <= 0;
        }

        boolean isNumber(long most) {
            return !register && within(0, most);
        }

        boolean isRegister() {
            return register && within(0, 255);
        }
    }

    private record Read(int number, String label, String operation, List<String> operands) {
    }

    byte[] memory = new byte[4096];
    int illAt = -1;
    final List<Long> told = new ArrayList<>();
    private final Map<String, Value> labels = new LinkedHashMap<>();
    private byte[] image;
    private int at;

    final List<Long> locals = new ArrayList<>();
    final List<Long> stack = new ArrayList<>();
    final long[] globals = new long[256];
    final long[] specials = new long[28];
    int rG;
    long place;
    int stopped;
    int oops;
    int mems;

    Model() {
        back();
    }

    // the assembler

    int assemble(String source) {
        List<Read> lines = new ArrayList<>();
        labels.clear();
        illAt = first(source, lines);
        if (illAt < 0) {
            illAt = then(lines);
        }
        if (illAt >= 0) {
            return 1;
        }
        memory = image;
        told.clear();
        for (Value label : labels.values()) {
            told.add(label.number.longValue() + (label.register ? 1L << 40 : 0));
        }
        back();
        return 0;
    }

    /** The ILL line that is seen without labels that come later, or -1. */
    private int first(String source, List<Read> lines) {
        String[] texts = source.split("\n", -1);
        at = 256;
        int filled = 0;
        for (int i = 0; i < texts.length; i++) {
            if (!texts[i].matches("(?s)[A-Za-z ].*")) {
                continue;
            }
            Read line = read(i, texts[i]);
            if (line == null) {
                return i;
            }
            if (line.operation == null) {
                continue;
            }
            lines.add(line);
            int size = size(line.operation);
            boolean is = line.operation.equals("IS");
            boolean loc = line.operation.equals("LOC");
            int here = size == 0 ? at : (at + size - 1) / size * size;
            Value value = new Value(true, false, BigInteger.valueOf(here));
            if (is || loc) {
                for (String operand : line.operands) {
                    if (!value(operand, here).right) {
                        return i;
                    }
                }
                Value operand = line.operands.isEmpty() ? new Value(true, false, BigInteger.ZERO) : value(line.operands.get(0), here);
                value = is ? operand : value;
                if (loc && !operand.isNumber(4096)) {
                    return i;
                }
                at = loc && !line.operands.isEmpty() ? operand.number.intValue() : at;
            } else {
                filled++;
                at = here + size * (NUMBERS.containsKey(line.operation) ? 1 : line.operands.size());
            }
            if (line.label != null && (labels.containsKey(line.label) || SPECIALS.containsKey(line.label) || labels.size() == 40)) {
                return i;
            }
            if (filled > 160 || at > 4096) {
                return i;
            }
            if (line.label != null) {
                labels.put(line.label, value);
            }
        }
        return -1;
    }

    private static int size(String operation) {
        return switch (operation) {
            case "IS", "LOC" -> 0;
            case "BYTE" -> 1;
            case "WYDE" -> 2;
            case "OCTA" -> 8;
            default -> 4;
        };
    }

    /** Null if it can't be read; without an operation if it is nothing. */
    private static Read read(int number, String text) {
        Matcher line = LINE.matcher(text);
        if (!line.matches()) {
            return null;
        }
        String operation = line.group(2);
        if (operation == null) {
            return line.group(1) == null ? new Read(number, null, null, List.of()) : null;
        }
        if (!NUMBERS.containsKey(operation) && !operation.matches("IS|LOC|BYTE|WYDE|TETRA|OCTA")) {
            return null;
        }
        List<String> operands = new ArrayList<>();
        if (line.group(3) != null) {
            Matcher matcher = OPERANDS.matcher(line.group(3));
            if (!matcher.matches()) {
                return null;
            }
            Matcher sum = Pattern.compile("(" + SUM + "),?", Pattern.DOTALL).matcher(matcher.group(1));
            while (sum.find()) {
                Matcher bad = Pattern.compile("\\$([0-9]+|#[0-9A-Fa-f]+)").matcher(sum.group(1));
                while (bad.find()) {
                    if (plain(bad.group(1)).compareTo(BigInteger.valueOf(255)) > 0) {
                        return null;
                    }
                }
                operands.add(sum.group(1));
            }
        }
        return new Read(number, line.group(1), operation, operands);
    }

    private static BigInteger plain(String number) {
        return number.startsWith("#") ? new BigInteger(number.substring(1), 16) : new BigInteger(number);
    }

    private static BigInteger around(BigInteger number) {
        return BigInteger.valueOf(number.longValue());
    }

    private Value value(String sum, int here) {
        Matcher matcher = Pattern.compile("([+-]?)(" + TERM + ")", Pattern.DOTALL).matcher(sum);
        BigInteger number = BigInteger.ZERO;
        boolean register = false;
        boolean right = true;
        while (matcher.find()) {
            Value term = term(matcher.group(2), here);
            right &= term.right;
            if (term.register) {
                right &= matcher.start() == 0 && matcher.group(1).isEmpty();
                register = true;
            }
            number = matcher.group(1).equals("-") ? number.subtract(term.number) : number.add(term.number);
        }
        number = around(number);
        Value value = new Value(true, register, number);
        return new Value(right && (!register || value.within(0, 255)), register, number);
    }

    private Value term(String term, int here) {
        if (term.equals("@")) {
            return new Value(true, false, BigInteger.valueOf(here));
        }
        if (term.startsWith("'")) {
            return new Value(true, false, BigInteger.valueOf(term.charAt(1)));
        }
        if (term.startsWith("$")) {
            String rest = term.substring(1);
            if (Character.isLetter(rest.charAt(0))) {
                Value label = labels.getOrDefault(rest, new Value(false, false, BigInteger.ZERO));
                return new Value(label.isNumber(255), true, label.number);
            }
            return new Value(true, true, plain(rest));
        }
        if (SPECIALS.containsKey(term)) {
            return new Value(true, false, BigInteger.valueOf(SPECIALS.get(term)));
        }
        if (Character.isLetter(term.charAt(0))) {
            return labels.getOrDefault(term, new Value(false, false, BigInteger.ZERO));
        }
        return new Value(true, false, around(plain(term)));
    }

    /** The ILL line that is seen with all labels, or -1; makes the image. */
    private int then(List<Read> lines) {
        image = new byte[4096];
        at = 256;
        for (Read line : lines) {
            int size = size(line.operation);
            int here = size == 0 ? at : (at + size - 1) / size * size;
            List<Value> values = new ArrayList<>();
            for (String operand : line.operands) {
                values.add(value(operand, here));
            }
            for (Value value : values) {
                if (!value.right) {
                    return line.number;
                }
            }
            if (size == 0) {
                if (values.size() != 1) {
                    return line.number;
                }
                at = line.operation.equals("LOC") ? values.get(0).number.intValue() : at;
            } else if (NUMBERS.containsKey(line.operation)) {
                Long word = word(line.operation, values, here);
                if (word == null) {
                    return line.number;
                }
                fill(image, here, 4, word);
                at = here + 4;
            } else {
                at = here;
                for (Value value : values) {
                    if (value.register) {
                        return line.number;
                    }
                    fill(image, at, size, value.number.longValue());
                    at += size;
                }
                if (values.isEmpty()) {
                    return line.number;
                }
            }
        }
        return -1;
    }

    private static void fill(byte[] bytes, int place, int size, long value) {
        for (int i = 0; i < size; i++) {
            bytes[place + i] = (byte) (value >> 8 * (size - 1 - i));
        }
    }

    /** R a register, E one or a number to 255, B a number to 255, W to 65535, S a SPECIAL one, P a place, Q one by three bytes. */
    private static String[] forms(String name) {
        if (name.matches("(B|PB)(N|Z|P|OD|NN|NZ|NP|EV)|PUSHJ|GETA")) {
            return new String[] {"RP"};
        }
        if (name.matches("SET.+|INC.+|OR(H|MH|ML|L)|ANDN.+")) {
            return new String[] {"RW"};
        }
        return switch (name) {
            case "NEG", "NEGU" -> new String[] {"R0E", "RBE"};
            case "STCO" -> new String[] {"BRE"};
            case "JMP" -> new String[] {"Q"};
            case "PUT" -> new String[] {"S0E"};
            case "GET" -> new String[] {"R0S"};
            case "POP" -> new String[] {"BW"};
            case "TRAP", "RESUME", "SWYM", "TRIP" -> new String[] {"000", "B00", "BB0", "BBB"};
            default -> new String[] {"RRE"};
        };
    }

    private static Long word(String name, List<Value> values, int here) {
        for (String form : forms(name)) {
            if (form.replace("0", "").length() == values.size()) {
                return word(NUMBERS.get(name), form, values, here);
            }
        }
        return null;
    }

    private static Long word(int number, String form, List<Value> values, int here) {
        long word = 0;
        int next = 0;
        int second = 0;
        for (char c : form.toCharArray()) {
            int bits = c == 'W' || c == 'P' ? 16 : c == 'Q' ? 24 : 8;
            word <<= bits;
            if (c == '0') {
                continue;
            }
            Value value = values.get(next);
            next++;
            boolean good = switch (c) {
                case 'R' -> value.isRegister();
                case 'E' -> value.isRegister() || value.isNumber(255);
                case 'B' -> value.isNumber(255);
                case 'W' -> value.isNumber(65535);
                case 'S' -> value.isNumber(255) && SPECIALS.containsValue(value.number.intValue());
                default -> !value.register && value.number.mod(BigInteger.valueOf(4)).signum() == 0;
            };
            if (!good) {
                return null;
            }
            if (c == 'E') {
                second = value.register ? 0 : 1;
            }
            if (bits > 8 && c != 'W') {
                BigInteger far = value.number.subtract(BigInteger.valueOf(here)).shiftRight(2);
                if (far.bitLength() > bits) {
                    return null;
                }
                second = far.signum() < 0 ? 1 : 0;
                word |= far.longValue() & (1L << bits) - 1;
            } else {
                word |= value.number.longValue();
            }
        }
        return (long) (number + second) << 24 | word;
    }

    // the machine

    void back() {
        locals.clear();
        stack.clear();
        Arrays.fill(globals, 0);
        Arrays.fill(specials, 0);
        rG = 255;
        place = 256;
        stopped = 0;
        oops = 0;
        mems = 0;
    }

    int byteAt(int where) {
        return where >= 0 && where < 4096 ? memory[where] & 255 : -1;
    }

    boolean store(int where, int high, int low) {
        if (where < 0 || where > 4088 || where % 8 != 0) {
            return false;
        }
        fill(memory, where, 4, high);
        fill(memory, where + 4, 4, low);
        return true;
    }

    long register(int k) {
        if (k < 0 || k > 255) {
            return 0;
        }
        return k >= rG ? globals[k] : k < locals.size() ? locals.get(k) : 0;
    }

    long special(int k) {
        return !SPECIALS.containsValue(k) ? 0 : k == 19 ? rG : k == 20 ? locals.size() : specials[k];
    }

    int taken(int what) {
        return what == 0 ? oops : what == 1 ? mems : what == 2 ? stack.size() : -1;
    }

    int run(int n) {
        int done = 0;
        while (n >= 0 && n <= 5000 && done < n && stopped == 0) {
            stopped = step();
            done += stopped == 0 ? 1 : 0;
        }
        return done;
    }

    private long read(long where, int size, boolean sign) {
        BigInteger sum = new BigInteger(Arrays.copyOfRange(memory, (int) where, (int) where + size));
        return sign ? sum.longValue() : sum.mod(BigInteger.ONE.shiftLeft(8 * size)).longValue();
    }

    private void write(int k, long value) {
        if (k >= rG) {
            globals[k] = value;
            return;
        }
        while (locals.size() <= k) {
            locals.add(0L);
        }
        locals.set(k, value);
    }

    private static BigInteger big(long number) {
        return BigInteger.valueOf(number);
    }

    private static BigInteger unsigned(long number) {
        return BigInteger.valueOf(number).mod(WHOLE);
    }

    /** Why it stops, or 0. */
    private int step() {
        if (place < 0 || place > 4092) {
            return 4;
        }
        long word = read(place, 4, false);
        int op = (int) (word >> 24);
        int x = (int) (word >> 16) & 255;
        int y = (int) (word >> 8) & 255;
        int z = (int) word & 255;
        String name = NAMES.get(op);
        if (name == null) {
            return 1;
        }
        boolean second = op != NUMBERS.get(name);
        if (name.equals("TRAP")) {
            if (x == 0 && y == 0) {
                return 5;
            }
            place += 4;
            oops++;
            return 0;
        }
        if (name.matches("LD.+|STB.*|STW.*|STT.*|STO|STCO")) {
            return access(name, word, x, register(y), second ? z : register(z));
        }
        if (name.matches("PUT|GET")) {
            return special(name, x, z, second);
        }
        if (name.equals("PUSHJ")) {
            return push(x, far(word, 16, second));
        }
        if (name.equals("POP")) {
            return pop(x, (int) word & 65535);
        }
        if (name.matches("SET.+|INC.+|OR(H|MH|ML|L)|ANDN.+")) {
            write(x, wide(name, register(x), word & 65535));
            place += 4;
            oops++;
            return 0;
        }
        if (name.matches("(B|PB)(N|Z|P|OD|NN|NZ|NP|EV)")) {
            boolean so = so(name.substring(name.startsWith("P") ? 2 : 1), register(x));
            place += so ? far(word, 16, second) : 4;
            oops += so == name.startsWith("P") ? 1 : 3;
            return 0;
        }
        return rest(name, word, x, y, z, second);
    }

    private static long far(long word, int bits, boolean second) {
        long forward = word & (1L << bits) - 1;
        return 4 * (second ? forward - (1L << bits) : forward);
    }

    private int rest(String name, long word, int x, int y, int z, boolean second) {
        switch (name) {
            case "JMP" -> place += far(word, 24, second);
            case "GETA" -> {
                write(x, place + far(word, 16, second));
                place += 4;
            }
            case "RESUME" -> {
                place = specials[24];
                oops += 4;
            }
            case "TRIP" -> {
                trip(word, register(y), register(z), 0);
                oops += 4;
            }
            case "SWYM" -> place += 4;
            default -> {
                reckon(name, word, x, name.startsWith("NEG") ? y : register(y), second ? z : register(z));
                return 0;
            }
        }
        oops++;
        return 0;
    }

    private void trip(long word, long y, long z, int target) {
        specials[0] = globals[255];
        globals[255] = specials[4];
        specials[24] = place + 4;
        specials[25] = big(word).subtract(BigInteger.ONE.shiftLeft(63)).longValue();
        specials[26] = y;
        specials[27] = z;
        place = target;
    }

    private void end(long word, int event, long y, long z) {
        if (event != 0 && (specials[21] / 256 & event) != 0) {
            trip(word, y, z, event == 128 ? 16 : 32);
            oops += 5;
        } else {
            specials[21] |= event;
            place += 4;
        }
    }

    private static boolean so(String condition, long y) {
        return ArithmeticTest.isSo(condition, y);
    }

    private static long wide(String name, long x, long yz) {
        int shift = name.endsWith("MH") ? 32 : name.endsWith("H") ? 48 : name.endsWith("ML") ? 16 : 0;
        BigInteger wide = big(yz).shiftLeft(shift);
        if (name.startsWith("SET")) {
            return wide.longValue();
        }
        if (name.startsWith("INC")) {
            return big(x).add(wide).longValue();
        }
        return name.startsWith("ANDN") ? big(x).andNot(wide).longValue() : big(x).or(wide).longValue();
    }

    private int access(String name, long word, int x, long y, long z) {
        char kind = name.charAt(2);
        int size = name.equals("STCO") ? 8 : kind == 'B' ? 1 : kind == 'W' ? 2 : kind == 'T' ? 4 : 8;
        long where = Math.floorDiv(y + z, (long) size) * size;
        if (where < 0 || where > 4096 - size) {
            return 4;
        }
        mems++;
        oops++;
        if (name.startsWith("LD")) {
            write(x, read(where, size, !name.endsWith("U")));
            place += 4;
            return 0;
        }
        long value = name.equals("STCO") ? x : register(x);
        fill(memory, (int) where, size, value);
        boolean fits = name.equals("STCO") || name.endsWith("U") || big(value).bitLength() < 8 * size;
        end(word, fits ? 0 : 64, where, value);
        return 0;
    }

    private int special(String name, int x, int z, boolean second) {
        boolean put = name.equals("PUT");
        if (!SPECIALS.containsValue(put ? x : z)) {
            return 1;
        }
        if (put) {
            put(x, second ? z : register(z));
        } else {
            write(x, special(z));
        }
        place += 4;
        oops++;
        return 0;
    }

    private void put(int k, long value) {
        if (k == 19) {
            if (value >= 32 && value <= 255 && value >= locals.size()) {
                for (int i = 0; i < 256; i++) {
                    globals[i] = i >= rG && i >= value ? globals[i] : 0;
                }
                rG = (int) value;
            }
        } else if (k == 20) {
            while (unsigned(value).compareTo(big(locals.size())) < 0) {
                locals.remove(locals.size() - 1);
            }
        } else {
            specials[k] = k == 21 ? Math.floorMod(value, 1L << 18) : value;
        }
    }

    private int push(int x, long far) {
        int n = x < rG ? x : locals.size();
        if (stack.size() + n + 1 > 300) {
            return 2;
        }
        for (int k = 0; k < n; k++) {
            stack.add(register(k));
        }
        stack.add((long) n);
        locals.subList(0, Math.min(n + 1, locals.size())).clear();
        specials[4] = place + 4;
        place += far;
        oops++;
        return 0;
    }

    private int pop(int x, int yz) {
        if (stack.isEmpty()) {
            return 3;
        }
        int results = Math.min(x, locals.size() + 1);
        int n = stack.remove(stack.size() - 1).intValue();
        List<Long> before = stack.subList(stack.size() - n, stack.size());
        List<Long> fresh = new ArrayList<>(before);
        before.clear();
        if (results > 0) {
            fresh.add(results <= locals.size() ? locals.get(results - 1) : 0);
            fresh.addAll(locals.subList(0, results - 1));
        }
        locals.clear();
        locals.addAll(fresh.subList(0, Math.min(fresh.size(), rG)));
        place = specials[4] + 4L * yz;
        oops += 3;
        return 0;
    }

    private void reckon(String name, long word, int x, long y, long z) {
        ArithmeticTest.Answer answer = ArithmeticTest.answer(name, y, z, name.equals("MUX") ? specials[5] : specials[1]);
        if (answer.writes()) {
            write(x, answer.x());
        }
        if (answer.rH() != null) {
            specials[3] = answer.rH();
        }
        if (answer.rR() != null) {
            specials[6] = answer.rR();
        }
        oops += name.startsWith("MUL") ? 10 : name.startsWith("DIV") ? 60 : 1;
        end(word, answer.event(), y, z);
    }
}
