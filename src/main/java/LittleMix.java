/** MMIX in small: an assembler for its instructions and data, and the machine. */
public final class LittleMix {
    public static final int NONE = -1;

    private static final int TAPE_ROOM = 1600;
    private static final int FED_AT_ONCE = 20;
    private static final int MOST_STEPS = 5000;

    private final char[] tape;
    private final Memory memory;
    private final Registers registers;
    private final Assembler assembler;
    private final Machine machine;
    private int length;

    public LittleMix() {
        tape = new char[TAPE_ROOM];
        memory = new Memory();
        registers = new Registers();
        assembler = new Assembler(tape);
        machine = new Machine(memory, registers);
    }

    public boolean feed(int a, int b, int c, int d, int e) {
        if (length > TAPE_ROOM - FED_AT_ONCE) {
            return false;
        }
        punch(a);
        punch(b);
        punch(c);
        punch(d);
        punch(e);
        return true;
    }

    private void punch(int four) {
        for (int shift = 24; shift >= 0; shift -= 8) {
            if (length < tape.length) {
                tape[length] = (char) (four >>> shift & 255);
                length++;
            }
        }
    }

    public int assemble(int n) {
        if (n < 0 || n > length) {
            return NONE;
        }
        length = 0;
        if (!assembler.translate(n)) {
            return 1;
        }
        memory.become(assembler.image);
        machine.setBack();
        return 0;
    }

    public int illAt() {
        return assembler.illLine;
    }

    public long label(int k) {
        return assembler.answer(k);
    }

    public int byteAt(int place) {
        return memory.holds(place, 1) ? (int) memory.read(place, 1) : NONE;
    }

    public boolean store(int place, int high, int low) {
        if (!memory.holds(place, 8) || (place & 7) != 0) {
            return false;
        }
        memory.write(place, 8, (long) high << 32 | low & 0xffffffffL);
        return true;
    }

    public void back() {
        machine.setBack();
    }

    public int run(int n) {
        return n < 0 || n > MOST_STEPS ? 0 : machine.go(n);
    }

    public int stopped() {
        return machine.stop;
    }

    public long register(int k) {
        return registers.read(k);
    }

    public long special(int k) {
        return registers.get(k);
    }

    public long place() {
        return machine.at;
    }

    public int taken(int what) {
        switch (what) {
            case 0:
                return machine.oops;
            case 1:
                return machine.mems;
            case 2:
                return registers.depth;
            default:
                return NONE;
        }
    }

    /** 4096 bytes, held in octas: what is read or written at a multiple of its size never crosses one. */
    private static final class Memory {
        static final int SIZE = 4096;

        private final long[] octas = new long[SIZE / 8];

        boolean holds(long place, int size) {
            return place >= 0 && place <= SIZE - size;
        }

        /** The size (1, 2, 4, 8) bytes at the place, gone down to a multiple of it, without a sign. */
        long read(long place, int size) {
            if (!holds(place, size)) {
                return 0;
            }
            return octas[(int) (place >> 3)] >>> shift(place, size) & mask(size);
        }

        void write(long place, int size, long value) {
            if (!holds(place, size)) {
                return;
            }
            int octa = (int) (place >> 3);
            int shift = shift(place, size);
            octas[octa] = octas[octa] & ~(mask(size) << shift) | (value & mask(size)) << shift;
        }

        /** An instruction need not be at a multiple of 4: POP and RESUME can go on anywhere. */
        int instruction(long place) {
            int word = 0;
            for (int i = 0; i < 4; i++) {
                word = word << 8 | (int) read(place + i, 1);
            }
            return word;
        }

        void clear() {
            for (int i = 0; i < octas.length; i++) {
                octas[i] = 0;
            }
        }

        void become(Memory other) {
            System.arraycopy(other.octas, 0, octas, 0, octas.length);
        }

        private static int shift(long place, int size) {
            return 64 - 8 * size - 8 * (int) (place & 7 & -size);
        }

        private static long mask(int size) {
            return -1L >>> 64 - 8 * size;
        }
    }

    /** What the assembler and the machine both know of the SPECIAL registers. */
    private static final class Specials {
        static final int RB = 0;
        static final int RD = 1;
        static final int RH = 3;
        static final int RJ = 4;
        static final int RM = 5;
        static final int RR = 6;
        static final int RG = 19;
        static final int RL = 20;
        static final int RA = 21;
        static final int RW = 24;
        static final int RX = 25;
        static final int RY = 26;
        static final int RZ = 27;

        private static final String LETTERS = "BDHJMRGLAWXYZ";
        private static final int[] NUMBERS = {RB, RD, RH, RJ, RM, RR, RG, RL, RA, RW, RX, RY, RZ};

        static boolean told(long number) {
            for (int i = 0; i < NUMBERS.length; i++) {
                if (NUMBERS[i] == number) {
                    return true;
                }
            }
            return false;
        }

        /** The number of the SPECIAL register with that name, NONE if it is another name. */
        static int named(char[] text, int start, int size) {
            if (size != 2 || text[start] != 'r') {
                return NONE;
            }
            int i = LETTERS.indexOf(text[start + 1]);
            return i < 0 ? NONE : NUMBERS[i];
        }
    }

    /** The OPERATIONS: an instruction has its number, the others have numbers above those. */
    private static final class Operations {
        static final int IS = 256;
        static final int LOC = 257;
        static final int BYTE = 258;
        static final int OCTA = 261;

        static final int TRIPLE = 0;
        static final int NEGATION = 1;
        static final int CONSTANT = 2;
        static final int BRANCH = 3;
        static final int JUMP = 4;
        static final int WIDE = 5;
        static final int PUTTING = 6;
        static final int GETTING = 7;
        static final int POPPING = 8;
        static final int BYTES = 9;

        private static final int LONGEST_NAME = 6;

        private final long[] names = new long[OCTA + 1];

        Operations() {
            learn(0, 1, "TRAP");
            learn(24, 2, "MUL MULU DIV DIVU ADD ADDU SUB SUBU 2ADDU 4ADDU 8ADDU 16ADDU CMP CMPU NEG NEGU SL SLU SR SRU");
            learn(64, 2, "BN BZ BP BOD BNN BNZ BNP BEV PBN PBZ PBP PBOD PBNN PBNZ PBNP PBEV");
            learn(96, 2, "CSN CSZ CSP CSOD CSNN CSNZ CSNP CSEV ZSN ZSZ ZSP ZSOD ZSNN ZSNZ ZSNP ZSEV");
            learn(128, 2, "LDB LDBU LDW LDWU LDT LDTU LDO");
            learn(160, 2, "STB STBU STW STWU STT STTU STO");
            learn(180, 2, "STCO");
            learn(192, 2, "OR ORN NOR XOR AND ANDN NAND NXOR BDIF WDIF TDIF ODIF MUX SADD MOR MXOR");
            learn(224, 1, "SETH SETMH SETML SETL INCH INCMH INCML INCL");
            learn(232, 1, "ORH ORMH ORML ORL ANDNH ANDNMH ANDNML ANDNL");
            learn(240, 2, "JMP PUSHJ GETA PUT POP");
            learn(249, 1, "RESUME");
            learn(253, 1, "SWYM GET TRIP");
            learn(IS, 1, "IS LOC BYTE WYDE TETRA OCTA");
        }

        private void learn(int first, int step, String text) {
            int number = first;
            for (int i = 0; i < text.length() && number < names.length; i++) {
                char c = text.charAt(i);
                if (c == ' ') {
                    number += step;
                } else {
                    names[number] = names[number] << 8 | c;
                }
            }
        }

        /** The number of the OPERATION with that name; NONE if there is none. */
        int find(char[] text, int start, int end) {
            if (start >= end || end - start > LONGEST_NAME) {
                return NONE;
            }
            long name = 0;
            for (int i = start; i < end; i++) {
                // a byte 0 in front would leave no trace in the number
                if (text[i] == 0) {
                    return NONE;
                }
                name = name << 8 | text[i];
            }
            for (int number = 0; number < names.length; number++) {
                if (names[number] == name) {
                    return number;
                }
            }
            return NONE;
        }

        static boolean isData(int operation) {
            return operation >= BYTE;
        }

        /** How many bytes an operand of data, or an instruction, has; 1 for what fills none. */
        static int sizeOf(int operation) {
            if (operation >= BYTE) {
                return 1 << operation - BYTE;
            }
            return operation >= IS ? 1 : 4;
        }

        /** Which operands an instruction takes. */
        static int kindOf(int operation) {
            switch (operation) {
                case 52:
                case 54:
                    return NEGATION;
                case 180:
                    return CONSTANT;
                case 240:
                    return JUMP;
                case 242:
                case 244:
                    return BRANCH;
                case 246:
                    return PUTTING;
                case 248:
                    return POPPING;
                case 254:
                    return GETTING;
                case 0:
                case 249:
                case 253:
                case 255:
                    return BYTES;
                default:
                    break;
            }
            if (operation >= 64 && operation < 96) {
                return BRANCH;
            }
            return operation >= 224 ? WIDE : TRIPLE;
        }
    }

    /** A line of a SOURCE, cut into its label, its operation and where its operands begin. */
    private static final class Line {
        static final int LONGEST_LABEL = 12;

        private final char[] text;
        private final Operations operations = new Operations();
        int labelAt;
        int labelSize;
        int operation;
        int operandsAt;
        int end;

        Line(char[] text) {
            this.text = text;
        }

        boolean isNothing() {
            return operation == NONE;
        }

        /** False if it can't be read; its operands are not looked at. */
        boolean read(int start, int limit) {
            findEnd(start, limit);
            labelAt = start;
            labelSize = 0;
            operation = NONE;
            operandsAt = end;
            if (start == end || text[start] != ' ' && !isLetter(text[start])) {
                return true;
            }
            int at = isLetter(text[start]) ? nameEnd(text, start, end) : start;
            labelSize = at - start;
            if (labelSize > LONGEST_LABEL || at < end && text[at] != ' ') {
                return false;
            }
            at = behindBlanks(at);
            if (at == end) {
                return labelSize == 0;
            }
            int behind = blankFrom(at);
            operation = operations.find(text, at, behind);
            operandsAt = behindBlanks(behind);
            return operation != NONE;
        }

        private void findEnd(int start, int limit) {
            end = start;
            while (end < limit && text[end] != '\n') {
                end++;
            }
        }

        private int behindBlanks(int from) {
            int at = from;
            while (at < end && text[at] == ' ') {
                at++;
            }
            return at;
        }

        private int blankFrom(int from) {
            int at = from;
            while (at < end && text[at] != ' ') {
                at++;
            }
            return at;
        }

        static boolean isLetter(char c) {
            return c >= 'A' && c <= 'Z' || c >= 'a' && c <= 'z';
        }

        static boolean isDigit(char c) {
            return c >= '0' && c <= '9';
        }

        /** Where the letters and digits from there on end. */
        static int nameEnd(char[] text, int start, int end) {
            int at = start;
            while (at < end && (isLetter(text[at]) || isDigit(text[at]))) {
                at++;
            }
            return at;
        }
    }

    /** The labels of a SOURCE: their names are places in its text. */
    private static final class Labels {
        private static final int MOST = 40;
        private static final long REGISTER_MARK = 1L << 40;

        private final char[] text;
        private final int[] starts = new int[MOST];
        private final int[] sizes = new int[MOST];
        private final long[] values = new long[MOST];
        private final boolean[] registers = new boolean[MOST];
        private int count;

        Labels(char[] text) {
            this.text = text;
        }

        void clear() {
            count = 0;
        }

        int find(int start, int size) {
            for (int k = 0; k < count; k++) {
                int same = 0;
                while (same < size && sizes[k] == size && text[starts[k] + same] == text[start + same]) {
                    same++;
                }
                if (same == size) {
                    return k;
                }
            }
            return NONE;
        }

        boolean isRegister(int k) {
            return k >= 0 && k < count && registers[k];
        }

        long valueOf(int k) {
            return k >= 0 && k < count ? values[k] : 0;
        }

        /** False if that can't be a label, or there is no room. */
        boolean add(int start, int size, boolean isRegister, long value) {
            if (count == MOST || find(start, size) != NONE || Specials.named(text, start, size) != NONE) {
                return false;
            }
            starts[count] = start;
            sizes[count] = size;
            values[count] = value;
            registers[count] = isRegister;
            count++;
            return true;
        }

        /** Writes what the labels are into the row; how many there are. */
        int tell(long[] row) {
            for (int k = 0; k < count && k < row.length; k++) {
                row[k] = registers[k] ? REGISTER_MARK + values[k] : values[k];
            }
            return count;
        }
    }

    /** Reads an EXPRESSION and reckons what it is. */
    private static final class Sum {
        private static final int MOST_DIGITS = 18;
        private static final int MOST_HEXADECIMAL = 16;

        private final char[] text;
        private final Labels labels;
        private int at;
        private int end;
        private long here;
        private boolean readable;
        private boolean termIsRegister;
        private long term;
        boolean right;
        boolean isRegister;
        long value;

        Sum(char[] text, Labels labels) {
            this.text = text;
            this.labels = labels;
        }

        /**
         * Where the next operand begins, the limit if there is none, NONE if this one can't be read.
         * A label that isn't there only makes it not right: it may yet come.
         */
        int read(int from, int limit, long where) {
            at = from;
            end = limit;
            here = where;
            readable = true;
            right = true;
            isRegister = false;
            value = 0;
            boolean minus = at < end && text[at] == '-';
            if (minus) {
                at++;
            }
            boolean more = true;
            for (int i = from; i < limit && more; i++) {
                readTerm();
                addTerm(minus, i == from);
                more = readable && at < end && (text[at] == '+' || text[at] == '-');
                if (more) {
                    minus = text[at] == '-';
                    at++;
                }
            }
            if (isRegister && (value < 0 || value > 255)) {
                right = false;
            }
            return readable ? behindOperand() : NONE;
        }

        private int behindOperand() {
            if (at >= end || text[at] == ' ') {
                return end;
            }
            return text[at] == ',' && at + 1 < end ? at + 1 : NONE;
        }

        private void addTerm(boolean minus, boolean first) {
            if (termIsRegister && first && !minus) {
                isRegister = true;
                value = term;
            } else if (termIsRegister) {
                right = false;
            } else {
                value = minus ? value - term : value + term;
            }
        }

        private void readTerm() {
            boolean dollar = at < end && text[at] == '$';
            if (dollar) {
                at++;
            }
            char c = at < end ? text[at] : ' ';
            boolean named = Line.isLetter(c);
            termIsRegister = false;
            term = 0;
            if (named) {
                readName(dollar);
            } else if (c == '#') {
                readHexadecimal();
            } else if (c == '@' && !dollar) {
                term = here;
                at++;
            } else if (c == '\'' && !dollar) {
                readCharacter();
            } else {
                readDecimal();
            }
            if (dollar) {
                turnIntoRegister(named);
            }
        }

        /** A wrong number is seen as it is read, that of a label only when all labels are known. */
        private void turnIntoRegister(boolean named) {
            boolean fits = !termIsRegister && term >= 0 && term <= 255;
            if (named) {
                right = right && fits;
            } else {
                readable = readable && fits;
            }
            termIsRegister = true;
        }

        private void readDecimal() {
            int start = at;
            while (at < end && Line.isDigit(text[at])) {
                term = 10 * term + (text[at] - '0');
                at++;
            }
            if (at == start || at - start > MOST_DIGITS) {
                readable = false;
            }
        }

        private void readHexadecimal() {
            at++;
            int start = at;
            while (at < end && hexadecimal(text[at]) != NONE) {
                term = term << 4 | hexadecimal(text[at]);
                at++;
            }
            if (at == start || at - start > MOST_HEXADECIMAL) {
                readable = false;
            }
        }

        private static int hexadecimal(char c) {
            if (c >= '0' && c <= '9') {
                return c - '0';
            }
            if (c >= 'A' && c <= 'F') {
                return c - 'A' + 10;
            }
            return c >= 'a' && c <= 'f' ? c - 'a' + 10 : NONE;
        }

        private void readCharacter() {
            if (at + 2 < end && text[at + 2] == '\'') {
                term = text[at + 1];
                at += 3;
            } else {
                readable = false;
            }
        }

        /** Behind a $ only a label may stand, not the name of a SPECIAL register. */
        private void readName(boolean dollar) {
            int start = at;
            at = Line.nameEnd(text, start, end);
            if (at - start > Line.LONGEST_LABEL) {
                readable = false;
            }
            int special = dollar ? NONE : Specials.named(text, start, at - start);
            if (special != NONE) {
                term = special;
                return;
            }
            int k = labels.find(start, at - start);
            if (k == NONE) {
                right = false;
            }
            term = labels.valueOf(k);
            termIsRegister = labels.isRegister(k);
        }
    }

    /** The operands of a line, and the instruction that they make. */
    private static final class Operands {
        private static final int KEPT = 3;

        private final long[] values = new long[KEPT];
        private final boolean[] registers = new boolean[KEPT];
        private boolean right;
        private boolean anyRegister;
        private int count;
        private int word;

        void clear() {
            count = 0;
            right = true;
            anyRegister = false;
            for (int i = 0; i < KEPT; i++) {
                values[i] = 0;
                registers[i] = false;
            }
        }

        void add(Sum sum) {
            if (count < KEPT) {
                values[count] = sum.value;
                registers[count] = sum.isRegister;
            }
            right = right && sum.right;
            anyRegister = anyRegister || sum.isRegister;
            count++;
        }

        /** Makes the word; false if the operands aren't those of the instruction. */
        boolean encode(int operation, long here) {
            switch (Operations.kindOf(operation)) {
                case Operations.TRIPLE:
                    return count == 3 && registers[0] && registers[1] && withLast(operation, 2, values[0], values[1]);
                case Operations.NEGATION:
                    return encodeNegation(operation);
                case Operations.CONSTANT:
                    return count == 3 && isNumber(0, 255) && registers[1] && withLast(operation, 2, values[0], values[1]);
                case Operations.BRANCH:
                    return count == 2 && registers[0] && withPlace(operation, 1, here, 1 << 16);
                case Operations.JUMP:
                    return count == 1 && withPlace(operation, 0, here, 1 << 24);
                case Operations.WIDE:
                    return count == 2 && registers[0] && isNumber(1, 65535) && make(operation, values[0], values[1]);
                case Operations.PUTTING:
                    return count == 2 && isSpecial(0) && withLast(operation, 1, values[0], 0);
                case Operations.GETTING:
                    return count == 2 && registers[0] && isSpecial(1) && make(operation, values[0], values[1]);
                case Operations.POPPING:
                    return count == 2 && isNumber(0, 255) && isNumber(1, 65535) && make(operation, values[0], values[1]);
                default:
                    return encodeBytes(operation);
            }
        }

        private boolean encodeNegation(int operation) {
            if (count == 2) {
                return registers[0] && withLast(operation, 1, values[0], 0);
            }
            return count == 3 && registers[0] && isNumber(1, 255) && withLast(operation, 2, values[0], values[1]);
        }

        private boolean encodeBytes(int operation) {
            return count <= 3 && isNumber(0, 255) && isNumber(1, 255) && isNumber(2, 255)
                    && make(operation, values[0], values[1] << 8 | values[2]);
        }

        private boolean isNumber(int i, int most) {
            return !registers[i] && values[i] >= 0 && values[i] <= most;
        }

        private boolean isSpecial(int i) {
            return !registers[i] && Specials.told(values[i]);
        }

        private boolean withLast(int operation, int i, long x, long y) {
            if (registers[i]) {
                return make(operation, x, y << 8 | values[i]);
            }
            return isNumber(i, 255) && make(operation + 1, x, y << 8 | values[i]);
        }

        private boolean withPlace(int operation, int i, long here, int reach) {
            long far = values[i] - here >> 2;
            if (registers[i] || (values[i] & 3) != 0 || far < -reach || far >= reach) {
                return false;
            }
            int number = far < 0 ? operation + 1 : operation;
            return make(number, i == 0 ? 0 : values[0], far < 0 ? far + reach : far);
        }

        private boolean make(int operation, long x, long rest) {
            word = operation << 24 | (int) x << 16 | (int) rest;
            return true;
        }
    }

    /** Goes over a SOURCE twice: labels may come later than where they are named. */
    private static final class Assembler {
        private static final int FIRST_PLACE = 256;
        private static final int MOST_FILLED = 160;

        private final Labels labels;
        private final Line line;
        private final Sum sum;
        private final Operands operands = new Operands();
        private final long[] answers = new long[Labels.MOST];
        private final Memory image = new Memory();
        private int answered;
        private int illLine = NONE;
        private int place;
        private int filled;

        Assembler(char[] text) {
            labels = new Labels(text);
            line = new Line(text);
            sum = new Sum(text, labels);
        }

        long answer(int k) {
            return k >= 0 && k < answered && k < answers.length ? answers[k] : NONE;
        }

        /** Makes the image of the first n bytes; false if they are ILL. */
        boolean translate(int n) {
            labels.clear();
            image.clear();
            illLine = NONE;
            for (int pass = 0; pass < 2 && illLine == NONE; pass++) {
                boolean surveying = pass == 0;
                place = FIRST_PLACE;
                filled = 0;
                int start = 0;
                for (int number = 0; number < n && start < n && illLine == NONE; number++) {
                    boolean good = line.read(start, n);
                    if (good && !line.isNothing()) {
                        good = gather(surveying) && (surveying ? survey() : emit());
                    }
                    illLine = good ? NONE : number;
                    start = line.end + 1;
                }
            }
            if (illLine == NONE) {
                answered = labels.tell(answers);
            }
            return illLine == NONE;
        }

        private int here() {
            int size = Operations.sizeOf(line.operation);
            return place + size - 1 & -size;
        }

        /** Data has any number of operands, so it is written as it is read; false if one can't be read. */
        private boolean gather(boolean surveying) {
            int size = Operations.sizeOf(line.operation);
            int here = here();
            int from = line.operandsAt;
            operands.clear();
            for (int i = 0; i < line.end && from < line.end; i++) {
                from = sum.read(from, line.end, here);
                if (from == NONE) {
                    return false;
                }
                operands.add(sum);
                if (!surveying && Operations.isData(line.operation)) {
                    image.write(here + i * size, size, sum.value);
                }
            }
            return true;
        }

        /** The first pass: the labels, and where the lines are. */
        private boolean survey() {
            boolean is = line.operation == Operations.IS;
            if ((is || line.operation == Operations.LOC) && !operands.right) {
                return false;
            }
            if (line.operation == Operations.LOC && !locates()) {
                return false;
            }
            if (line.labelSize > 0) {
                long value = is ? operands.values[0] : here();
                if (!labels.add(line.labelAt, line.labelSize, is && operands.registers[0], value)) {
                    return false;
                }
            }
            goOn();
            return place <= Memory.SIZE && filled <= MOST_FILLED;
        }

        private boolean locates() {
            return !operands.registers[0] && operands.values[0] >= 0 && operands.values[0] <= Memory.SIZE;
        }

        private void goOn() {
            if (line.operation == Operations.LOC) {
                place = operands.count > 0 ? (int) operands.values[0] : place;
            } else if (line.operation != Operations.IS) {
                int size = Operations.sizeOf(line.operation);
                place = here() + size * (Operations.isData(line.operation) ? operands.count : 1);
                filled++;
            }
        }

        /** The second pass: all labels are known now. */
        private boolean emit() {
            if (!operands.right) {
                return false;
            }
            boolean good;
            if (Operations.isData(line.operation)) {
                good = operands.count > 0 && !operands.anyRegister;
            } else if (line.operation >= Operations.IS) {
                good = operands.count == 1;
            } else {
                good = operands.encode(line.operation, here());
                image.write(here(), 4, operands.word);
            }
            goOn();
            return good;
        }
    }

    /** The registers of the machine and THE STACK. MARGINAL ones are kept 0, so that they read so. */
    private static final class Registers {
        private static final int LAST = 255;
        private static final int LEAST_GLOBAL = 32;
        private static final long EVENT_BITS = (1 << 18) - 1;

        private final long[] general = new long[LAST + 1];
        private final long[] specials = new long[Specials.RZ + 1];
        private final long[] stack = new long[300];
        private int depth;
        private int local;
        private int global = LAST;

        void reset() {
            clearFrom(0, LAST + 1);
            for (int k = 0; k < specials.length; k++) {
                specials[k] = 0;
            }
            depth = 0;
            local = 0;
            global = LAST;
        }

        private void clearFrom(int from, int behind) {
            for (int k = from; k < behind && k < general.length; k++) {
                general[k] = 0;
            }
        }

        long read(int k) {
            return k >= 0 && k <= LAST ? general[k] : 0;
        }

        void write(int k, long value) {
            if (k < 0 || k > LAST) {
                return;
            }
            if (k < global && k >= local) {
                local = k + 1;
            }
            general[k] = value;
        }

        long get(int k) {
            if (k == Specials.RG) {
                return global;
            }
            if (k == Specials.RL) {
                return local;
            }
            return k >= 0 && k < specials.length ? specials[k] : 0;
        }

        /** For those that take any number; the others are written by put. */
        void set(int k, long value) {
            if (k >= 0 && k < specials.length) {
                specials[k] = value;
            }
        }

        /** As PUT does it. */
        void put(int k, long value) {
            if (k == Specials.RG) {
                if (value >= LEAST_GLOBAL && value <= LAST && value >= local) {
                    clearFrom(global, (int) value);
                    global = (int) value;
                }
            } else if (k == Specials.RL) {
                // a negative one is, without a sign, above all that rL can be
                if (value >= 0 && value < local) {
                    clearFrom((int) value, local);
                    local = (int) value;
                }
            } else {
                set(k, k == Specials.RA ? value & EVENT_BITS : value);
            }
        }

        /** False if the stack would be too long. */
        boolean push(int x) {
            int hole = x < global ? x : local;
            if (depth + hole + 1 > stack.length) {
                return false;
            }
            System.arraycopy(general, 0, stack, depth, hole);
            depth += hole + 1;
            stack[depth - 1] = hole;
            int left = Math.max(0, local - hole - 1);
            if (left > 0) {
                System.arraycopy(general, hole + 1, general, 0, left);
            }
            clearFrom(left, local);
            local = left;
            return true;
        }

        /** False if there is no number on the stack. */
        boolean pop(int x) {
            if (depth == 0) {
                return false;
            }
            int results = Math.min(x, local + 1);
            long chief = results > 0 && results <= local ? general[results - 1] : 0;
            int hole = (int) stack[depth - 1];
            depth -= hole + 1;
            int left = Math.min(hole + results, global);
            if (left > hole + 1) {
                System.arraycopy(general, 0, general, hole + 1, left - hole - 1);
            }
            if (left > hole) {
                general[hole] = chief;
            }
            System.arraycopy(stack, depth, general, 0, Math.min(hole, left));
            clearFrom(left, local);
            local = left;
            return true;
        }
    }

    /** What of the arithmetic goes beyond single operations on numbers of 64 bits. */
    private static final class Arithmetic {
        static final long LOW = 0xffffffffL;
        static final long LEAST = 1L << 63;

        /** Without signs. */
        static boolean below(long a, long b) {
            return a + LEAST < b + LEAST;
        }

        /** The upper 64 bits of the product, without signs. */
        static long upper(long a, long b) {
            long middle = (a >>> 32) * (b & LOW) + ((a & LOW) * (b & LOW) >>> 32);
            long other = (a & LOW) * (b >>> 32) + (middle & LOW);
            return (a >>> 32) * (b >>> 32) + (middle >>> 32) + (other >>> 32);
        }

        static boolean productFits(long a, long b) {
            long upper = upper(a, b) - (a < 0 ? b : 0) - (b < 0 ? a : 0);
            return upper == a * b >> 63;
        }

        /** Of high times 2 to the 64 and low by a divisor above high, all without signs. */
        static long quotient(long high, long low, long divisor) {
            long rest = high;
            long quotient = 0;
            for (int i = 63; i >= 0; i--) {
                boolean carry = rest < 0;
                rest = rest << 1 | low >>> i & 1;
                quotient <<= 1;
                if (carry || !below(rest, divisor)) {
                    rest -= divisor;
                    quotient |= 1;
                }
            }
            return quotient;
        }

        /** Part by part of so many bits y less z, at least 0. */
        static long difference(long y, long z, int bits) {
            long mask = -1L >>> 64 - bits;
            long x = 0;
            for (int part = 0; part < 8 && part * bits < 64; part++) {
                long a = y >>> part * bits & mask;
                long b = z >>> part * bits & mask;
                x |= (below(b, a) ? a - b : 0) << part * bits;
            }
            return x;
        }

        static long matrix(long y, long z, boolean exclusive) {
            long x = 0;
            for (int i = 0; i < 64; i += 8) {
                long sum = 0;
                for (int k = 0; k < 8; k++) {
                    long term = (z >>> i + k & 1) == 0 ? 0 : y >>> 8 * k & 255;
                    sum = exclusive ? sum ^ term : sum | term;
                }
                x |= sum << i;
            }
            return x;
        }

        static boolean isSo(int condition, long y) {
            boolean so;
            switch (condition & 3) {
                case 0:
                    so = y < 0;
                    break;
                case 1:
                    so = y == 0;
                    break;
                case 2:
                    so = y > 0;
                    break;
                default:
                    so = (y & 1) == 1;
                    break;
            }
            return so == condition < 4;
        }
    }

    /** Executes instructions. One that stops it finds out before it has changed anything. */
    private static final class Machine {
        private static final int GOES_ON = 0;
        private static final int NOT_TOLD = 1;
        private static final int STACK_TOO_LONG = 2;
        private static final int STACK_EMPTY = 3;
        private static final int NOT_WITHIN = 4;
        private static final int TRAPPED = 5;
        private static final int FIRST_PLACE = 256;
        private static final int BY_ZERO = 128;
        private static final int OVERFLOW = 64;

        private final Memory memory;
        private final Registers registers;
        private long at;
        private int stop;
        private int oops;
        private int mems;
        private int word;
        private int op;
        private int x;
        private int y;
        private int z;
        /** What the instruction reckons with: the document's y and z. */
        private long left;
        private long right;
        private long next;
        private int cost;
        private int event;

        Machine(Memory memory, Registers registers) {
            this.memory = memory;
            this.registers = registers;
            at = FIRST_PLACE;
        }

        void setBack() {
            registers.reset();
            at = FIRST_PLACE;
            stop = GOES_ON;
            oops = 0;
            mems = 0;
        }

        int go(int n) {
            int done = 0;
            for (int i = 0; i < n && stop == GOES_ON; i++) {
                step();
                if (stop == GOES_ON) {
                    done++;
                }
            }
            return done;
        }

        private void step() {
            if (!memory.holds(at, 4)) {
                stop = NOT_WITHIN;
                return;
            }
            decode();
            stop = execute();
            if (stop != GOES_ON) {
                return;
            }
            if (event != 0) {
                happen();
            }
            at = next;
            oops += cost;
        }

        private void decode() {
            word = memory.instruction(at);
            op = word >>> 24;
            x = word >>> 16 & 255;
            y = word >>> 8 & 255;
            z = word & 255;
            left = registers.read(y);
            right = (op & 1) == 0 ? registers.read(z) : z;
            next = at + 4;
            cost = 1;
            event = 0;
        }

        private void happen() {
            long events = registers.get(Specials.RA);
            if ((events & event << 8) == 0) {
                registers.set(Specials.RA, events | event);
            } else {
                trip(event == BY_ZERO ? 16 : 32);
                cost += 5;
            }
        }

        private void trip(int target) {
            registers.set(Specials.RB, registers.read(255));
            registers.write(255, registers.get(Specials.RJ));
            registers.set(Specials.RW, next);
            registers.set(Specials.RX, (word & Arithmetic.LOW) + Arithmetic.LEAST);
            registers.set(Specials.RY, left);
            registers.set(Specials.RZ, right);
            next = target;
        }

        /** Why it stops, or GOES_ON. */
        private int execute() {
            if (op == 0) {
                return x == 0 && y == 0 ? TRAPPED : GOES_ON;
            }
            if (op >= 128 && op < 192) {
                return access();
            }
            if (op >= 240) {
                return control();
            }
            if (op < 24) {
                return NOT_TOLD;
            }
            if (op < 32) {
                registers.write(x, multiplied());
            } else if (op < 56) {
                registers.write(x, added());
            } else if (op < 64) {
                registers.write(x, shifted());
            } else if (op < 96) {
                branch();
            } else if (op < 128) {
                choose();
            } else if (op < 224) {
                registers.write(x, op < 208 ? combined() : scattered());
            } else {
                registers.write(x, widened());
            }
            return GOES_ON;
        }

        private void overflowIf(boolean wrong) {
            if (wrong) {
                event = OVERFLOW;
            }
        }

        private long multiplied() {
            cost = op < 28 ? 10 : 60;
            switch (op >> 1) {
                case 12:
                    overflowIf(!Arithmetic.productFits(left, right));
                    return left * right;
                case 13:
                    registers.set(Specials.RH, Arithmetic.upper(left, right));
                    return left * right;
                case 14:
                    return divided();
                default:
                    return dividedWithoutSigns();
            }
        }

        private long divided() {
            if (right == 0) {
                event = BY_ZERO;
                registers.set(Specials.RR, left);
                return 0;
            }
            if (right == -1) {
                // the one quotient that doesn't fit is its own contrary in 64 bits
                overflowIf(left == Arithmetic.LEAST);
                registers.set(Specials.RR, 0);
                return -left;
            }
            registers.set(Specials.RR, Math.floorMod(left, right));
            return Math.floorDiv(left, right);
        }

        private long dividedWithoutSigns() {
            long high = registers.get(Specials.RD);
            if (!Arithmetic.below(high, right)) {
                registers.set(Specials.RR, left);
                return high;
            }
            long quotient = Arithmetic.quotient(high, left, right);
            registers.set(Specials.RR, left - quotient * right);
            return quotient;
        }

        private long added() {
            switch (op >> 1) {
                case 16:
                    overflowIf(((left ^ left + right) & (right ^ left + right)) < 0);
                    return left + right;
                case 17:
                    return left + right;
                case 18:
                    return subtracted();
                case 19:
                    return left - right;
                case 24:
                    return Long.compare(left, right);
                case 25:
                    return left == right ? 0 : Arithmetic.below(left, right) ? -1 : 1;
                case 26:
                    left = y;
                    return subtracted();
                case 27:
                    return y - right;
                default:
                    return (left << (op >> 1) - 19) + right;
            }
        }

        private long subtracted() {
            overflowIf(((left ^ right) & (left ^ left - right)) < 0);
            return left - right;
        }

        private long shifted() {
            boolean all = right < 0 || right > 63;
            switch (op >> 1) {
                case 28:
                    overflowIf(all ? left != 0 : left << right >> right != left);
                    return all ? 0 : left << right;
                case 29:
                    return all ? 0 : left << right;
                case 30:
                    return all ? left >> 63 : left >> right;
                default:
                    return all ? 0 : left >>> right;
            }
        }

        private long placeFromHere(int far, int reach) {
            return at + 4L * ((op & 1) == 0 ? far : far - reach);
        }

        private long target() {
            return placeFromHere(word & 0xffff, 1 << 16);
        }

        private void branch() {
            boolean goes = Arithmetic.isSo(op >> 1 & 7, registers.read(x));
            boolean probable = op >= 80;
            if (goes) {
                next = target();
            }
            if (goes != probable) {
                cost = 3;
            }
        }

        private void choose() {
            if (Arithmetic.isSo(op >> 1 & 7, left)) {
                registers.write(x, right);
            } else if (op >= 112) {
                registers.write(x, 0);
            }
        }

        /** Loads and stores. */
        private int access() {
            boolean constant = op == 180 || op == 181;
            boolean load = op < 142;
            if (!constant && !load && (op < 160 || op >= 174)) {
                return NOT_TOLD;
            }
            int size = constant ? 8 : 1 << (op >> 2 & 3);
            long target = left + right & -size;
            if (!memory.holds(target, size)) {
                return NOT_WITHIN;
            }
            mems++;
            if (load) {
                registers.write(x, withSign(memory.read(target, size), size));
                return GOES_ON;
            }
            left = target;
            right = constant ? x : registers.read(x);
            overflowIf(!constant && withSign(right, size) != right && (op & 2) == 0);
            memory.write(target, size, right);
            return GOES_ON;
        }

        /** Of as many bytes; those without a sign stay as they are. */
        private long withSign(long value, int size) {
            int shift = 64 - 8 * size;
            return (op & 2) == 0 ? value << shift >> shift : value;
        }

        private long combined() {
            switch (op >> 1) {
                case 96:
                    return left | right;
                case 97:
                    return left | ~right;
                case 98:
                    return ~(left | right);
                case 99:
                    return left ^ right;
                case 100:
                    return left & right;
                case 101:
                    return left & ~right;
                case 102:
                    return ~(left & right);
                default:
                    return ~(left ^ right);
            }
        }

        private long scattered() {
            long mask = registers.get(Specials.RM);
            switch (op >> 1) {
                case 108:
                    return left & mask | right & ~mask;
                case 109:
                    return Long.bitCount(left & ~right);
                case 110:
                    return Arithmetic.matrix(left, right, false);
                case 111:
                    return Arithmetic.matrix(left, right, true);
                default:
                    return Arithmetic.difference(left, right, 8 << (op >> 1) - 104);
            }
        }

        private long widened() {
            long old = registers.read(x);
            long wide = (word & 0xffffL) << 48 - 16 * (op & 3);
            switch (op >> 2) {
                case 56:
                    return wide;
                case 57:
                    return old + wide;
                case 58:
                    return old | wide;
                default:
                    return old & ~wide;
            }
        }

        private int control() {
            switch (op) {
                case 240:
                case 241:
                    next = placeFromHere(word & 0xffffff, 1 << 24);
                    return GOES_ON;
                case 242:
                case 243:
                    return pushAndJump();
                case 244:
                case 245:
                    registers.write(x, target());
                    return GOES_ON;
                case 246:
                case 247:
                    return putSpecial();
                case 248:
                    return popAndReturn();
                case 249:
                    next = registers.get(Specials.RW);
                    cost = 5;
                    return GOES_ON;
                case 253:
                    return GOES_ON;
                case 254:
                    return getSpecial();
                case 255:
                    right = registers.read(z);
                    trip(0);
                    cost = 5;
                    return GOES_ON;
                default:
                    return NOT_TOLD;
            }
        }

        private int pushAndJump() {
            if (!registers.push(x)) {
                return STACK_TOO_LONG;
            }
            registers.set(Specials.RJ, next);
            next = target();
            return GOES_ON;
        }

        private int popAndReturn() {
            if (!registers.pop(x)) {
                return STACK_EMPTY;
            }
            next = registers.get(Specials.RJ) + 4L * (word & 0xffff);
            cost = 3;
            return GOES_ON;
        }

        private int putSpecial() {
            if (!Specials.told(x)) {
                return NOT_TOLD;
            }
            registers.put(x, right);
            return GOES_ON;
        }

        private int getSpecial() {
            if (!Specials.told(z)) {
                return NOT_TOLD;
            }
            registers.write(x, registers.get(z));
            return GOES_ON;
        }
    }
}
