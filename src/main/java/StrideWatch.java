/**
 * What registers can hold in a piece of x86-64 code, found by going through its
 * instructions with sets of numbers; beside that, the code can be run.
 */
public final class StrideWatch {
    public static final int NONE = -1;
    public static final int OUT = -2;

    private static final int MOST_BYTES = 200;
    private static final int MOST_FED = 16;
    private static final int MOST_STEPS = 1000;
    private static final int MOST_ROUNDS = 60;
    private static final int GOT_BEFORE_WIDENING = 3;

    private static final int LOCATION_COUNT = 24;
    private static final int FIRST_STACK_PLACE = 16;
    private static final int RSP = 4;
    private static final int RBP = 5;

    private static final int WIDE = 64;
    private static final int HALF = 32;

    // The numbers of the operations are those that decode tells.
    private static final int BAD = -1;
    private static final int ADD = 0;
    private static final int OR = 1;
    private static final int AND = 4;
    private static final int SUB = 5;
    private static final int XOR = 6;
    private static final int CMP = 7;
    private static final int TEST = 8;
    private static final int NOT = 9;
    private static final int NEG = 10;
    private static final int INC = 11;
    private static final int DEC = 12;
    private static final int MOV = 13;
    private static final int SHL = 14;
    private static final int SHR = 15;
    private static final int SAR = 16;
    private static final int IMUL = 17;
    private static final int SIGN = 18;
    private static final int JUMP_IF = 19;
    private static final int JUMP = 20;
    private static final int NOP = 21;
    private static final int END = 22;

    // A condition without its lowest bit, which says "not so".
    private static final int IF_OVERFLOW = 0;
    private static final int IF_CARRY = 2;
    private static final int IF_ZERO = 4;
    private static final int IF_CARRY_OR_ZERO = 6;
    private static final int IF_SIGN = 8;
    private static final int IF_PARITY = 10;
    private static final int IF_LESS = 12;
    private static final int IF_AT_MOST = 14;

    private static final int GO_DONE = 0;
    private static final int GO_END = 1;
    private static final int GO_BAD = 2;
    private static final int GO_OUT = 3;
    private static final int GO_UNKNOWN = 4;

    private final Code code;
    private final Instruction instruction;
    private final State entry;
    private final Looking looking;
    private final Run run;

    public StrideWatch() {
        code = new Code();
        instruction = new Instruction(code);
        entry = new State();
        looking = new Looking(code, instruction);
        run = new Run(code, instruction);
    }

    public int feed(int many, int a, int b, int c, int d) throws IllegalArgumentException, IllegalStateException {
        if (many < 0 || many > MOST_FED) {
            throw new IllegalArgumentException("many is not 0 .. 16");
        }
        if (code.count + many > MOST_BYTES) {
            throw new IllegalStateException("there would be more than 200 bytes");
        }
        code.append(Math.min(many, 4), a);
        code.append(Math.min(many - 4, 4), b);
        code.append(Math.min(many - 8, 4), c);
        code.append(Math.min(many - 12, 4), d);
        forgetFindings();
        return code.count;
    }

    public int erase() {
        int before = code.count;
        code.count = 0;
        forgetFindings();
        return before;
    }

    public void given(int location, long low, long high, long step) throws IllegalArgumentException {
        requireLocation(location);
        if (!Span.isTriple(low, high, step)) {
            throw new IllegalArgumentException("low, high, step are no set");
        }
        entry.keep(location, low, high, step);
    }

    public void any(int location) throws IllegalArgumentException {
        requireLocation(location);
        entry.keep(location, 0, 0, Span.ANY_STEP);
    }

    public int decode(int address, int what) throws IllegalArgumentException {
        requireByte(address);
        if (what < 0 || what > 5) {
            throw new IllegalArgumentException("what is not 0 .. 5");
        }
        instruction.readFrom(address);
        return instruction.tell(what);
    }

    public long constant(int address) throws IllegalArgumentException {
        requireByte(address);
        instruction.readFrom(address);
        return instruction.number;
    }

    public int look() {
        return looking.search(entry);
    }

    public int reached(int address) {
        return looking.timesGot(address);
    }

    public long set(int address, int location, int what) throws IllegalArgumentException, IllegalStateException {
        requireLocation(location);
        if (what < 0 || what > 2) {
            throw new IllegalArgumentException("what is not 0 .. 2");
        }
        if (looking.timesGot(address) == 0) {
            throw new IllegalStateException("nothing came to it");
        }
        Span span = looking.spanOf(address, location);
        return what == 0 ? span.low : what == 1 ? span.high : span.step;
    }

    public boolean has(int address, int location, long number) throws IllegalArgumentException {
        requireLocation(location);
        return looking.timesGot(address) != 0 && looking.spanOf(address, location).holds(number);
    }

    public void start() {
        run.begin();
    }

    public void put(int location, long number) throws IllegalArgumentException {
        requireLocation(location);
        run.prepare(location, number);
    }

    public int go(int many) throws IllegalArgumentException, IllegalStateException {
        if (many < 1 || many > MOST_STEPS) {
            throw new IllegalArgumentException("many is not 1 .. 1000");
        }
        if (run.where == NONE) {
            throw new IllegalStateException("no run is started");
        }
        int outcome = GO_DONE;
        for (int done = 0; done < many && outcome == GO_DONE; done++) {
            outcome = run.doNext();
        }
        return outcome;
    }

    public int at() {
        return run.where;
    }

    public long value(int location) throws IllegalArgumentException {
        requireLocation(location);
        return run.where == NONE ? 0 : run.read(location);
    }

    private void forgetFindings() {
        looking.forget();
        run.where = NONE;
    }

    private void requireByte(int address) {
        if (!code.holds(address)) {
            throw new IllegalArgumentException("there is no such byte");
        }
    }

    private static void requireLocation(int location) {
        if (!isLocation(location)) {
            throw new IllegalArgumentException("there is no such location");
        }
    }

    private static boolean isLocation(int location) {
        return location >= 0 && location < LOCATION_COUNT;
    }

    /** The bytes that were fed. */
    private static final class Code {
        private final int[] bytes = new int[MOST_BYTES];
        private int count;

        void append(int many, int four) {
            for (int i = 0; i < many && count < MOST_BYTES; i++) {
                bytes[count] = (four >>> (24 - 8 * i)) & 0xFF;
                count++;
            }
        }

        boolean holds(long address) {
            return address >= 0 && address < count;
        }
    }

    /** One instruction; each reading overwrites the one before, so that none has to be made anew. */
    private static final class Instruction {
        private static final int REX_W = 8;
        private static final int REX_R = 4;
        private static final int REX_B = 1;
        // Added to the byte behind 0F, so that one number tells the whole opcode.
        private static final int SECOND_PAGE = 0x100;

        private final Code code;
        private int cursor;
        private int rex;
        private boolean sound;
        private int register;
        private int extension;
        private int place;

        private int length;
        private int operation;
        private int width;
        private int target;
        private int source;
        private int detail;
        private long number;

        Instruction(Code code) {
            this.code = code;
        }

        void readFrom(int address) {
            cursor = address;
            rex = 0;
            sound = true;
            becomePlain(NOP);
            int opcode = nextByte();
            if ((opcode & 0xF2) == 0x40) {
                rex = opcode;
                opcode = nextByte();
            }
            if (opcode == 0x0F) {
                opcode = SECOND_PAGE + nextByte();
            }
            width = (rex & REX_W) != 0 ? WIDE : HALF;
            int column = opcode & 7;
            if (opcode < 0x40 && (column == 1 || column == 3)) {
                readPair(opcode >> 3, column == 1);
            } else if ((opcode & ~15) == 0x70) {
                readJump(JUMP_IF, opcode & 15, 1);
            } else if ((opcode & ~15) == SECOND_PAGE + 0x80) {
                readJump(JUMP_IF, opcode & 15, 4);
            } else if ((opcode & ~7) == 0xB8) {
                readMoveToRegister(column);
            } else {
                readOther(opcode);
            }
            length = cursor - address;
            if (operation >= JUMP_IF) {
                width = 0;
            }
            if (!sound || isFrameChanged() || isCarryArithmetic()) {
                becomePlain(BAD);
            }
        }

        int tell(int what) {
            if (operation == BAD) {
                return NONE;
            }
            switch (what) {
                case 0: return length;
                case 1: return operation;
                case 2: return width;
                case 3: return target;
                case 4: return source;
                default: return detail;
            }
        }

        private void becomePlain(int newOperation) {
            operation = newOperation;
            target = NONE;
            source = NONE;
            detail = 0;
            number = 0;
        }

        private boolean isFrameChanged() {
            return (target == RSP || target == RBP) && operation != CMP && operation != TEST;
        }

        // k = 2, 3 would be ADC and SBB, which need a flag as an operand.
        private boolean isCarryArithmetic() {
            return operation == 2 || operation == 3;
        }

        private void readOther(int opcode) {
            switch (opcode) {
                case 0x63: readSignExtension(); break;
                case 0x81: readArithmeticWithConstant(4); break;
                case 0x83: readArithmeticWithConstant(1); break;
                case 0x85: readPair(TEST, true); break;
                case 0x89: readPair(MOV, true); break;
                case 0x8B: readPair(MOV, false); break;
                case 0x90: operation = NOP; break;
                case 0xC1: readShift(); break;
                case 0xC3: operation = END; break;
                case 0xC7: readMoveToPlace(); break;
                case 0xE9: readJump(JUMP, 0, 4); break;
                case 0xEB: readJump(JUMP, 0, 1); break;
                case 0xF4: operation = END; break;
                case 0xF7: readTestNotNeg(); break;
                case 0xFF: readIncDec(); break;
                case SECOND_PAGE + 0xAF: readPair(IMUL, false); break;
                default: sound = false; break;
            }
        }

        private void readPair(int newOperation, boolean placeIsTarget) {
            readPlace();
            operation = newOperation;
            target = placeIsTarget ? place : register;
            source = placeIsTarget ? register : place;
        }

        private void readSignExtension() {
            readPlace();
            operation = SIGN;
            target = register;
            source = place;
            if (width != WIDE || place >= FIRST_STACK_PLACE) {
                sound = false;
            }
        }

        private void readArithmeticWithConstant(int bytes) {
            readPlace();
            operation = extension;
            target = place;
            number = readNumber(bytes);
        }

        private void readShift() {
            readPlace();
            target = place;
            number = readNumber(1);
            detail = (int) number & (width - 1);
            switch (extension) {
                case 4: operation = SHL; break;
                case 5: operation = SHR; break;
                case 7: operation = SAR; break;
                default: sound = false; break;
            }
        }

        private void readMoveToPlace() {
            readPlace();
            operation = MOV;
            target = place;
            number = readNumber(4);
            if (extension != 0) {
                sound = false;
            }
        }

        private void readMoveToRegister(int lowBits) {
            operation = MOV;
            target = (rex & REX_B) != 0 ? lowBits + 8 : lowBits;
            number = readNumber(width == WIDE ? 8 : 4);
        }

        private void readTestNotNeg() {
            readPlace();
            target = place;
            switch (extension) {
                case 0:
                    operation = TEST;
                    number = readNumber(4);
                    break;
                case 2: operation = NOT; break;
                case 3: operation = NEG; break;
                default: sound = false; break;
            }
        }

        private void readIncDec() {
            readPlace();
            target = place;
            operation = extension == 0 ? INC : DEC;
            if (extension > 1) {
                sound = false;
            }
        }

        private void readJump(int newOperation, int condition, int bytes) {
            operation = newOperation;
            detail = condition;
            long distance = readNumber(bytes);
            number = cursor + distance;
            if ((condition & 14) == IF_PARITY) {
                sound = false;
            }
        }

        private void readPlace() {
            int form = nextByte();
            boolean far = (rex & REX_B) != 0;
            int lowBits = form & 7;
            extension = (form >> 3) & 7;
            register = (rex & REX_R) != 0 ? extension + 8 : extension;
            place = far ? lowBits + 8 : lowBits;
            if (form >> 6 == 3) {
                return;
            }
            if (form >> 6 != 1 || lowBits != RBP || far || width != WIDE) {
                sound = false;
                return;
            }
            int offset = (byte) nextByte();
            if (offset < -64 || offset > -8 || offset % 8 != 0) {
                sound = false;
                return;
            }
            place = FIRST_STACK_PLACE - 1 - offset / 8;
        }

        private long readNumber(int bytes) {
            long sum = 0;
            for (int i = 0; i < bytes; i++) {
                sum |= (long) nextByte() << (8 * i);
            }
            int unused = 64 - 8 * bytes;
            return sum << unused >> unused;
        }

        private int nextByte() {
            if (cursor < 0 || cursor >= code.count) {
                sound = false;
                return 0;
            }
            int next = code.bytes[cursor];
            cursor++;
            return next;
        }
    }

    /** One SET. Its operations overwrite it, so that looking makes no objects. */
    private static final class Span {
        private static final long LARGEST = 1L << 61;
        private static final long LARGEST_FACTOR = 1L << 30;
        private static final long TWO_31 = 1L << 31;
        private static final long TWO_32 = 1L << 32;
        private static final long ANY_STEP = -1;
        private static final long NONE_STEP = -2;
        private static final int MOST_GCD_STEPS = 128;

        private long low;
        private long high;
        private long step;

        static boolean isTriple(long low, long high, long step) {
            if (low > high || low < -LARGEST || high > LARGEST) {
                return false;
            }
            if (low == high) {
                return step == 0;
            }
            return step > 0 && (high - low) % step == 0;
        }

        boolean isAny() {
            return step == ANY_STEP;
        }

        boolean isNone() {
            return step == NONE_STEP;
        }

        boolean isSingle() {
            return step == 0;
        }

        boolean isNatural() {
            return step >= 0 && low >= 0;
        }

        boolean holds(long number) {
            if (step == ANY_STEP) {
                return true;
            }
            if (step < 0 || number < low || number > high) {
                return false;
            }
            return step == 0 || (number - low) % step == 0;
        }

        void become(long newLow, long newHigh, long newStep) {
            boolean tooLarge = newLow < -LARGEST || newHigh > LARGEST;
            low = tooLarge ? 0 : newLow;
            high = tooLarge ? 0 : newHigh;
            step = tooLarge ? ANY_STEP : newLow == newHigh ? 0 : newStep;
        }

        void becomeAny() {
            low = 0;
            high = 0;
            step = ANY_STEP;
        }

        void becomeNone() {
            low = 0;
            high = 0;
            step = NONE_STEP;
        }

        void copyFrom(Span other) {
            low = other.low;
            high = other.high;
            step = other.step;
        }

        void join(Span a, Span b) {
            if (a.isAny() || b.isAny()) {
                becomeAny();
                return;
            }
            long common = gcd(gcd(a.step, b.step), a.low - b.low);
            become(Math.min(a.low, b.low), Math.max(a.high, b.high), common);
        }

        /** Makes of a JOIN what is WIDENED: a bound that has moved from the SET before goes as far as it can. */
        void stretchFrom(Span before) {
            if (step <= 0) {
                return;
            }
            if (low < before.low) {
                low = -LARGEST + (low + LARGEST) % step;
            }
            if (high > before.high) {
                high = LARGEST - (LARGEST - high) % step;
            }
        }

        void cut(long from, long to) {
            if (step < 0) {
                return;
            }
            if (from > high || to < low) {
                becomeNone();
                return;
            }
            // What is single lies between from and to here, so that the step divides only where it is above 0.
            long newLow = from > low && step > 0 ? from + Math.floorMod(low - from, step) : low;
            long newHigh = to < high && step > 0 ? to - Math.floorMod(to - high, step) : high;
            if (newLow > newHigh) {
                becomeNone();
            } else {
                become(newLow, newHigh, step);
            }
        }

        void drop(long number) {
            if (step < 0) {
                return;
            }
            if (isSingle()) {
                if (number == low) {
                    becomeNone();
                }
            } else if (number == low) {
                become(low + step, high, step);
            } else if (number == high) {
                become(low, high - step, step);
            }
        }

        /** What an operation makes of a and b; for SHL, b is the power of two to multiply by. */
        void operate(int operation, Span a, Span b, int amount) {
            switch (operation) {
                case ADD: case INC: add(a, b); break;
                case SUB: case DEC: subtract(a, b); break;
                case AND: and(a, b); break;
                case OR: case XOR: mix(operation == OR, a, b); break;
                case NEG: subtractFrom(0, a); break;
                case NOT: subtractFrom(-1, a); break;
                case IMUL: case SHL: multiply(a, b); break;
                case SAR: shiftRight(a, amount); break;
                case SHR:
                    if (amount == 0 || a.isNatural()) {
                        shiftRight(a, amount);
                    } else {
                        become(0, -1L >>> amount, 1);
                    }
                    break;
                default: copyFrom(b); break;
            }
        }

        void takeLowHalf() {
            if (isAny()) {
                become(0, TWO_32 - 1, 1);
            } else if (isSingle()) {
                long half = low & (TWO_32 - 1);
                become(half, half, 0);
            } else if (low < 0 || high >= TWO_32) {
                long common = Math.min(Long.lowestOneBit(step), TWO_32);
                long rest = low & (common - 1);
                become(rest, TWO_32 - common + rest, common);
            }
        }

        void takeSignedHalf() {
            takeLowHalf();
            if (high < TWO_31) {
                return;
            }
            if (low >= TWO_31) {
                become(low - TWO_32, high - TWO_32, step);
                return;
            }
            long common = Long.lowestOneBit(step);
            long rest = low & (common - 1);
            become(rest - TWO_31, TWO_31 - common + rest, common);
        }

        private void add(Span a, Span b) {
            if (a.isAny() || b.isAny()) {
                becomeAny();
            } else {
                become(a.low + b.low, a.high + b.high, gcd(a.step, b.step));
            }
        }

        private void subtract(Span a, Span b) {
            if (a.isAny() || b.isAny()) {
                becomeAny();
            } else {
                become(a.low - b.high, a.high - b.low, gcd(a.step, b.step));
            }
        }

        private void subtractFrom(long number, Span a) {
            if (a.isAny()) {
                becomeAny();
            } else {
                become(number - a.high, number - a.low, a.step);
            }
        }

        private void and(Span a, Span b) {
            if (a.isSingle() && b.isSingle()) {
                become(a.low & b.low, a.low & b.low, 0);
                return;
            }
            if (!a.isNatural() && !b.isNatural()) {
                becomeAny();
                return;
            }
            long top = a.isNatural() ? a.high : b.high;
            if (b.isNatural()) {
                top = Math.min(top, b.high);
            }
            boolean isMask = a.isSingle() && a.low == top || b.isSingle() && b.low == top;
            become(0, top, isMask ? Long.lowestOneBit(top) : 1);
        }

        private void mix(boolean isOr, Span a, Span b) {
            if (a.isSingle() && b.isSingle()) {
                long mixed = isOr ? a.low | b.low : a.low ^ b.low;
                become(mixed, mixed, 0);
            } else if (a.isNatural() && b.isNatural()) {
                // At least one is not single, so that the greater bound has a highest bit.
                long top = Long.highestOneBit(Math.max(a.high, b.high));
                become(isOr ? Math.max(a.low, b.low) : 0, 2 * top - 1, 1);
            } else {
                becomeAny();
            }
        }

        private void shiftRight(Span a, int amount) {
            if (amount == 0) {
                copyFrom(a);
                return;
            }
            if (a.isAny()) {
                long half = 1L << (63 - amount);
                become(-half, half - 1, 1);
                return;
            }
            long lost = (1L << amount) - 1;
            boolean divides = (a.step & lost) == 0 && (a.low & lost) == 0;
            become(a.low >> amount, a.high >> amount, divides ? a.step >> amount : 1);
        }

        private void multiply(Span a, Span b) {
            if (a.isSingle() && a.low == 0 || b.isSingle() && b.low == 0) {
                become(0, 0, 0);
                return;
            }
            if (!a.isFactor() || !b.isFactor()) {
                becomeAny();
                return;
            }
            long first = a.low * b.low;
            long second = a.low * b.high;
            long third = a.high * b.low;
            long fourth = a.high * b.high;
            long least = Math.min(Math.min(first, second), Math.min(third, fourth));
            long greatest = Math.max(Math.max(first, second), Math.max(third, fourth));
            long common = gcd(gcd(a.step * b.low, b.step * a.low), a.step * b.step);
            become(least, greatest, common);
        }

        private boolean isFactor() {
            return step >= 0 && low >= -LARGEST_FACTOR && high <= LARGEST_FACTOR;
        }

        private static long gcd(long a, long b) {
            long greater = a < 0 ? -a : a;
            long smaller = b < 0 ? -b : b;
            for (int i = 0; i < MOST_GCD_STEPS && smaller != 0; i++) {
                long rest = greater % smaller;
                greater = smaller;
                smaller = rest;
            }
            return greater;
        }
    }

    /** The SETS of all LOCATIONS and the RECORD. */
    private static final class State {
        private static final int NO_RECORD = 0;
        private static final int COMPARED = 1;
        private static final int RESULT = 2;

        private final long[] lows = new long[LOCATION_COUNT];
        private final long[] highs = new long[LOCATION_COUNT];
        private final long[] steps = new long[LOCATION_COUNT];
        private int record = NO_RECORD;
        private int x = NONE;
        private int y = NONE;
        private long number;

        State() {
            for (int i = 0; i < LOCATION_COUNT; i++) {
                steps[i] = Span.ANY_STEP;
            }
        }

        void keep(int location, long low, long high, long step) {
            if (isLocation(location)) {
                lows[location] = low;
                highs[location] = high;
                steps[location] = step;
            }
        }

        void store(int location, Span span) {
            keep(location, span.low, span.high, span.step);
        }

        void load(int location, Span into) {
            if (isLocation(location)) {
                into.low = lows[location];
                into.high = highs[location];
                into.step = steps[location];
            } else {
                into.becomeAny();
            }
        }

        void copyFrom(State other) {
            System.arraycopy(other.lows, 0, lows, 0, LOCATION_COUNT);
            System.arraycopy(other.highs, 0, highs, 0, LOCATION_COUNT);
            System.arraycopy(other.steps, 0, steps, 0, LOCATION_COUNT);
            setRecord(other.record, other.x, other.y, other.number);
        }

        void setRecord(int newRecord, int newX, int newY, long newNumber) {
            record = newRecord;
            x = newX;
            y = newY;
            number = newNumber;
        }

        void dropRecord() {
            setRecord(NO_RECORD, NONE, NONE, 0);
        }

        boolean isSameRecord(State other) {
            return record == other.record && x == other.x && y == other.y && number == other.number;
        }

        boolean isSameSpan(State other, int location) {
            return lows[location] == other.lows[location] && highs[location] == other.highs[location]
                && steps[location] == other.steps[location];
        }
    }

    /** A POINT: what has come to an address. */
    private static final class Point {
        private final State state = new State();
        private int got;
        private boolean waiting;
    }

    /** What an instruction that is no jump does to SETS and RECORD. */
    private static final class Effect {
        private static final int LARGEST_SHIFT = 30;

        private final Span first = new Span();
        private final Span second = new Span();
        private final Span result = new Span();

        void apply(Instruction instruction, State state) {
            int operation = instruction.operation;
            if (operation >= JUMP_IF) {
                return;
            }
            if (operation != CMP && operation != TEST) {
                loadOperands(instruction, state);
                fitOperands(instruction);
                computeResult(instruction);
                state.store(instruction.target, result);
            }
            noteRecord(instruction, state);
        }

        private void loadOperands(Instruction instruction, State state) {
            state.load(instruction.target, first);
            if (instruction.source != NONE) {
                state.load(instruction.source, second);
                return;
            }
            long number = instruction.number;
            if (instruction.operation == INC || instruction.operation == DEC) {
                number = 1;
            } else if (instruction.operation == SHL) {
                number = 1L << instruction.detail;
            }
            second.become(number, number, 0);
        }

        private void fitOperands(Instruction instruction) {
            int operation = instruction.operation;
            if (operation == SIGN) {
                second.takeSignedHalf();
            }
            if (instruction.width == WIDE) {
                return;
            }
            if (operation == IMUL || operation == SAR) {
                first.takeSignedHalf();
                second.takeSignedHalf();
            } else {
                first.takeLowHalf();
                second.takeLowHalf();
            }
        }

        private void computeResult(Instruction instruction) {
            int operation = instruction.operation;
            boolean ofItself = instruction.target == instruction.source;
            if (ofItself && (operation == XOR || operation == SUB)) {
                result.become(0, 0, 0);
            } else if (operation == SHL && instruction.detail > LARGEST_SHIFT) {
                result.becomeAny();
            } else {
                result.operate(operation, first, second, instruction.detail);
            }
            if (instruction.width == HALF) {
                result.takeLowHalf();
            }
        }

        private void noteRecord(Instruction instruction, State state) {
            int target = instruction.target;
            boolean wide = instruction.width == WIDE;
            boolean ofItself = target == instruction.source;
            switch (instruction.operation) {
                case MOV: case SIGN: case NOT:
                    if (state.x == target || state.y == target) {
                        state.dropRecord();
                    }
                    return;
                case CMP:
                    if (wide && !ofItself) {
                        state.setRecord(State.COMPARED, target, instruction.source, instruction.number);
                        return;
                    }
                    break;
                case TEST:
                    if (wide && ofItself) {
                        state.setRecord(State.RESULT, target, NONE, 0);
                        return;
                    }
                    break;
                case SHL: case SHR: case SAR: case IMUL:
                    break;
                default:
                    if (wide) {
                        state.setRecord(State.RESULT, target, NONE, 0);
                        return;
                    }
                    break;
            }
            state.dropRecord();
        }
    }

    /** What a JUMP IF says of the LOCATIONS in the RECORD, along one of its edges. */
    private static final class Branch {
        private static final long NO_LOW = 1L << 63;
        private static final long NO_HIGH = ~NO_LOW;

        private final Span x = new Span();
        private final Span y = new Span();

        /** Whether the edge is gone along. */
        boolean narrow(State state, int condition, boolean holds) {
            if (state.record == State.NO_RECORD) {
                return true;
            }
            state.load(state.x, x);
            if (state.y != NONE) {
                state.load(state.y, y);
            } else {
                y.become(state.number, state.number, 0);
            }
            boolean isSo = holds == ((condition & 1) == 0);
            int plain = condition & 14;
            if (plain == IF_ZERO) {
                if (isSo) {
                    becomeEqual();
                } else {
                    becomeUnequal();
                }
            } else if (state.record == State.COMPARED) {
                narrowCompared(plain, isSo);
            } else if (plain == IF_SIGN) {
                x.cut(isSo ? NO_LOW : 0, isSo ? -1 : NO_HIGH);
            }
            if (x.isNone() || y.isNone()) {
                return false;
            }
            state.store(state.x, x);
            state.store(state.y, y);
            return true;
        }

        private void narrowCompared(int plain, boolean isSo) {
            Span lower = isSo ? x : y;
            Span higher = isSo ? y : x;
            boolean strict = isSo == (plain == IF_LESS || plain == IF_CARRY);
            int gap = strict ? 1 : 0;
            if (plain == IF_LESS || plain == IF_AT_MOST) {
                order(lower, higher, gap);
            } else if (plain == IF_CARRY || plain == IF_CARRY_OR_ZERO) {
                orderUnsigned(lower, higher, gap);
            }
        }

        // Where one is a single number, cutting the other one to its bounds leaves that number or NONE.
        private void becomeEqual() {
            if (x.isAny()) {
                x.copyFrom(y);
            } else if (y.isAny()) {
                y.copyFrom(x);
            } else {
                long from = x.low;
                long to = x.high;
                x.cut(y.low, y.high);
                y.cut(from, to);
            }
        }

        private void becomeUnequal() {
            boolean isXSingle = x.isSingle();
            long xLow = x.low;
            if (y.isSingle()) {
                x.drop(y.low);
            }
            if (isXSingle) {
                y.drop(xLow);
            }
        }

        private static void order(Span lower, Span higher, int gap) {
            long from = lower.isAny() ? NO_LOW : lower.low + gap;
            long to = higher.isAny() ? NO_HIGH : higher.high - gap;
            lower.cut(NO_LOW, to);
            higher.cut(from, NO_HIGH);
        }

        private static void orderUnsigned(Span lower, Span higher, int gap) {
            if (!higher.isNatural()) {
                return;
            }
            long from = lower.isNatural() ? lower.low + gap : NO_LOW;
            long to = higher.high - gap;
            if (!lower.isAny()) {
                lower.cut(0, to);
            } else if (to < 0) {
                lower.becomeNone();
            } else {
                lower.become(0, to, 1);
            }
            higher.cut(from, NO_HIGH);
        }
    }

    /** LOOKING, and what it has found. */
    private static final class Looking {
        private final Code code;
        private final Instruction instruction;
        // A POINT is made when its address is first come to, and used again when it is looked anew.
        private final Point[] points = new Point[MOST_BYTES];
        private final State work = new State();
        private final Effect effect = new Effect();
        private final Branch branch = new Branch();
        private final Span before = new Span();
        private final Span arriving = new Span();
        private final Span joined = new Span();

        Looking(Code code, Instruction instruction) {
            this.code = code;
            this.instruction = instruction;
        }

        void forget() {
            for (int i = 0; i < MOST_BYTES; i++) {
                Point point = points[i];
                if (point != null) {
                    point.got = 0;
                    point.waiting = false;
                }
            }
        }

        int timesGot(int address) {
            Point point = pointIfMade(address);
            return point == null ? 0 : point.got;
        }

        Span spanOf(int address, int location) {
            Point point = pointIfMade(address);
            if (point == null) {
                arriving.becomeNone();
            } else {
                point.state.load(location, arriving);
            }
            return arriving;
        }

        /** How many ROUNDS there were, or NONE if it is TIRED. */
        int search(State entry) {
            forget();
            work.copyFrom(entry);
            arrive(0, 0);
            for (int round = 0; round < MOST_ROUNDS; round++) {
                boolean idle = true;
                for (int address = 0; address < code.count; address++) {
                    if (isWaiting(address)) {
                        idle = false;
                        goThrough(address);
                    }
                }
                if (idle) {
                    return round;
                }
            }
            for (int address = 0; address < code.count; address++) {
                if (isWaiting(address)) {
                    forget();
                    return NONE;
                }
            }
            return MOST_ROUNDS;
        }

        private Point pointIfMade(int address) {
            return address >= 0 && address < MOST_BYTES ? points[address] : null;
        }

        private boolean isWaiting(int address) {
            Point point = pointIfMade(address);
            return point != null && point.waiting;
        }

        private void goThrough(int address) {
            Point point = pointIfMade(address);
            if (point == null) {
                return;
            }
            point.waiting = false;
            instruction.readFrom(address);
            int operation = instruction.operation;
            if (operation == BAD || operation == END) {
                return;
            }
            if (operation != JUMP) {
                work.copyFrom(point.state);
                effect.apply(instruction, work);
                if (operation != JUMP_IF || branch.narrow(work, instruction.detail, false)) {
                    arrive(address, address + instruction.length);
                }
            }
            if (operation == JUMP || operation == JUMP_IF) {
                work.copyFrom(point.state);
                if (operation == JUMP || branch.narrow(work, instruction.detail, true)) {
                    arrive(address, instruction.number);
                }
            }
        }

        private void arrive(int from, long to) {
            if (!code.holds(to) || to >= MOST_BYTES) {
                return;
            }
            int address = (int) to;
            Point point = points[address];
            if (point == null) {
                point = new Point();
                points[address] = point;
            }
            boolean changed = true;
            if (point.got == 0) {
                point.state.copyFrom(work);
            } else {
                changed = absorb(point.state, address <= from && point.got >= GOT_BEFORE_WIDENING);
            }
            if (changed) {
                point.got++;
                point.waiting = true;
            }
        }

        /** Whether a SET or the RECORD has become another one. */
        private boolean absorb(State state, boolean widening) {
            boolean changed = false;
            for (int location = 0; location < LOCATION_COUNT; location++) {
                if (state.isSameSpan(work, location)) {
                    continue;
                }
                state.load(location, before);
                work.load(location, arriving);
                joined.join(before, arriving);
                if (widening) {
                    joined.stretchFrom(before);
                }
                state.store(location, joined);
                if (joined.low != before.low || joined.high != before.high || joined.step != before.step) {
                    changed = true;
                }
            }
            if (state.record != State.NO_RECORD && !state.isSameRecord(work)) {
                state.dropRecord();
                changed = true;
            }
            return changed;
        }
    }

    /** A RUN of the code on numbers. */
    private static final class Run {
        private static final long LOW_HALF = 0xFFFFFFFFL;

        private final Code code;
        private final Instruction instruction;
        private final long[] prepared = new long[LOCATION_COUNT];
        private final long[] held = new long[LOCATION_COUNT];
        private int where = NONE;
        private boolean known;
        private boolean zero;
        private boolean sign;
        private boolean carry;
        private boolean overflow;

        Run(Code code, Instruction instruction) {
            this.code = code;
            this.instruction = instruction;
        }

        void prepare(int location, long number) {
            if (isLocation(location)) {
                prepared[location] = number;
            }
        }

        void begin() {
            System.arraycopy(prepared, 0, held, 0, LOCATION_COUNT);
            known = false;
            moveTo(0);
        }

        long read(int location) {
            return isLocation(location) ? held[location] : 0;
        }

        /** Does one instruction: what go answers if it is the last one. */
        int doNext() {
            if (where < 0) {
                return GO_OUT;
            }
            instruction.readFrom(where);
            int behind = where + instruction.length;
            switch (instruction.operation) {
                case BAD: return GO_BAD;
                case END: return GO_END;
                case NOP:
                    moveTo(behind);
                    return GO_DONE;
                case JUMP:
                    moveTo(instruction.number);
                    return GO_DONE;
                case JUMP_IF:
                    if (!known) {
                        return GO_UNKNOWN;
                    }
                    moveTo(isSo(instruction.detail) ? instruction.number : behind);
                    return GO_DONE;
                default:
                    compute();
                    moveTo(behind);
                    return GO_DONE;
            }
        }

        private void moveTo(long address) {
            where = code.holds(address) ? (int) address : OUT;
        }

        private boolean isSo(int condition) {
            boolean plain;
            switch (condition & 14) {
                case IF_OVERFLOW: plain = overflow; break;
                case IF_CARRY: plain = carry; break;
                case IF_ZERO: plain = zero; break;
                case IF_CARRY_OR_ZERO: plain = carry || zero; break;
                case IF_SIGN: plain = sign; break;
                case IF_LESS: plain = sign != overflow; break;
                default: plain = zero || sign != overflow; break;
            }
            return plain == ((condition & 1) == 0);
        }

        private void compute() {
            int operation = instruction.operation;
            long a = atWidth(read(instruction.target));
            long b = atWidth(instruction.source == NONE ? instruction.number : read(instruction.source));
            switch (operation) {
                case ADD: write(sum(a, b)); break;
                case SUB: write(difference(a, b)); break;
                case CMP: difference(a, b); break;
                case NEG: write(difference(0, a)); break;
                case INC: case DEC: write(nextTo(a, operation == INC)); break;
                case AND: write(noteBits(a & b)); break;
                case OR: write(noteBits(a | b)); break;
                case XOR: write(noteBits(a ^ b)); break;
                case TEST: noteBits(a & b); break;
                case NOT: write(~a); break;
                case SIGN: write((int) b); break;
                case SHL: case SHR: case SAR: case IMUL:
                    known = false;
                    write(operation == IMUL ? a * b : shifted(a));
                    break;
                default: write(b); break;
            }
        }

        // Half as wide numbers are held with their sign, which keeps their order without signs, too.
        private long atWidth(long number) {
            return instruction.width == WIDE ? number : (int) number;
        }

        private void write(long number) {
            int target = instruction.target;
            if (isLocation(target)) {
                held[target] = instruction.width == WIDE ? number : number & LOW_HALF;
            }
        }

        private long sum(long a, long b) {
            long result = noteBits(a + b);
            carry = Long.compareUnsigned(result, a) < 0;
            overflow = ((a ^ result) & (b ^ result)) < 0;
            return result;
        }

        private long difference(long a, long b) {
            long result = noteBits(a - b);
            carry = Long.compareUnsigned(a, b) < 0;
            overflow = ((a ^ b) & (a ^ result)) < 0;
            return result;
        }

        private long nextTo(long a, boolean up) {
            if (!known) {
                return up ? a + 1 : a - 1;
            }
            boolean carryBefore = carry;
            long result = up ? sum(a, 1) : difference(a, 1);
            carry = carryBefore;
            return result;
        }

        private long noteBits(long exact) {
            long result = atWidth(exact);
            known = true;
            zero = result == 0;
            sign = result < 0;
            carry = false;
            overflow = false;
            return result;
        }

        private long shifted(long a) {
            int amount = instruction.detail;
            switch (instruction.operation) {
                case SHL: return a << amount;
                case SHR: return (instruction.width == WIDE ? a : a & LOW_HALF) >>> amount;
                default: return a >> amount;
            }
        }
    }
}
