/**
 * A field of nimbers: sums without carries, products by Fermat powers, inverses, roots, powers and
 * orders, equations of the second degree, and tables; each nimber but 0 times its inverse makes 1.
 */
public final class NimberField {
    /** There is no such result. */
    public static final int NONE = -1;

    private static final int REGISTERS = 8;
    private static final int BITS = 16;
    private static final int GREATEST_NIMBER = 65535;
    private static final int GREATEST_FOR_TABLE = 15;
    private static final int GREATEST_FOR_POWERS = 255;
    private static final int GREATEST_EXPONENT = 1000000000;
    private static final int PROGRAM_ROOM = 60;
    /** A step takes three characters at least, and a ";" parts it from the next. */
    private static final int STEP_ROOM = (PROGRAM_ROOM + 1) / 4;
    private static final int KEPT_STATES = 4;

    private final Nimbers field;
    private final LeastNumberTable table;
    private final Program program;
    private final State state;
    private final State trial;
    private final State snapshot;
    private final History history;
    private boolean snapshotTaken;

    public NimberField() {
        field = new Nimbers();
        table = new LeastNumberTable();
        program = new Program();
        state = new State();
        trial = new State();
        snapshot = new State();
        history = new History();
        snapshotTaken = false;
    }

    // ---- actions

    public int set(int register, int nimber) throws IndexOutOfBoundsException, IllegalArgumentException {
        requireRegister(register);
        requireRange(nimber, GREATEST_NIMBER);
        int previous = state.nimberIn(register);
        history.record(state);
        state.put(register, nimber);
        return previous;
    }

    public int invert(int register) throws IndexOutOfBoundsException, IllegalStateException {
        requireRegister(register);
        int nimber = state.nimberIn(register);
        if (nimber == 0) {
            throw new IllegalStateException("0 has no inverse");
        }
        return replace(register, field.dividedBy(1, nimber));
    }

    public int takeRoot(int register) throws IndexOutOfBoundsException {
        requireRegister(register);
        return replace(register, field.root(state.nimberIn(register)));
    }

    public int multiply(int register, int other) throws IndexOutOfBoundsException {
        requireRegister(register);
        requireRegister(other);
        int product = replace(register, field.times(state.nimberIn(register), state.nimberIn(other)));
        state.countProduct();
        return product;
    }

    public int exchange(int register, int other) throws IndexOutOfBoundsException {
        requireRegister(register);
        requireRegister(other);
        int nimber = state.nimberIn(register);
        int otherNimber = state.nimberIn(other);
        history.record(state);
        state.put(register, otherNimber);
        state.put(other, nimber);
        return otherNimber;
    }

    // ---- programs

    public int type(char character) throws IllegalStateException {
        if (program.isFull()) {
            throw new IllegalStateException("the program has 60 characters");
        }
        return program.append(character);
    }

    public int clearProgram() {
        return program.empty();
    }

    public int programError() {
        return program.read();
    }

    public int trappedStep() throws IllegalStateException {
        requireValidProgram();
        return tryProgram();
    }

    public int carryOut() throws IllegalStateException {
        requireValidProgram();
        if (tryProgram() != NONE) {
            throw new IllegalStateException("a step traps");
        }
        history.record(state);
        state.copyFrom(trial);
        return state.nimberIn(program.lastTarget());
    }

    // ---- undo, snapshot

    public int undo() throws IllegalStateException {
        if (history.size() == 0) {
            throw new IllegalStateException("no state is recorded");
        }
        return history.returnTo(state);
    }

    public int takeSnapshot() {
        snapshot.copyFrom(state);
        snapshotTaken = true;
        return state.sum();
    }

    public int restoreSnapshot() throws IllegalStateException {
        if (!snapshotTaken) {
            throw new IllegalStateException("there is no snapshot");
        }
        history.record(state);
        state.copyFrom(snapshot);
        return state.sum();
    }

    // ---- registers

    public int nimberOf(int register) throws IndexOutOfBoundsException {
        requireRegister(register);
        return state.nimberIn(register);
    }

    public int sumOfAll() {
        return state.sum();
    }

    public int registerToLessen() {
        int sum = state.sum();
        for (int register = 0; register < REGISTERS; register++) {
            int nimber = state.nimberIn(register);
            if ((nimber ^ sum) < nimber) {
                return register;
            }
        }
        return NONE;
    }

    // ---- two nimbers

    public int productByHalves(int nimber, int other) throws IllegalArgumentException {
        requireRange(nimber, GREATEST_NIMBER);
        requireRange(other, GREATEST_NIMBER);
        return Nimbers.timesByHalves(nimber, other, BITS / 2);
    }

    public int productByBits(int nimber, int other) throws IllegalArgumentException {
        requireRange(nimber, GREATEST_NIMBER);
        requireRange(other, GREATEST_NIMBER);
        return field.times(nimber, other);
    }

    public int productByTable(int nimber, int other) throws IllegalArgumentException {
        requireRange(nimber, GREATEST_FOR_TABLE);
        requireRange(other, GREATEST_FOR_TABLE);
        return table.cell(nimber, other);
    }

    public int quotient(int nimber, int other) throws IllegalArgumentException {
        requireRange(nimber, GREATEST_NIMBER);
        requireRange(other, GREATEST_NIMBER);
        return field.dividedBy(nimber, other);
    }

    public int power(int nimber, int exponent) throws IllegalArgumentException {
        requireRange(nimber, GREATEST_NIMBER);
        requireRange(exponent, GREATEST_EXPONENT);
        return field.raised(nimber, exponent);
    }

    // ---- one nimber

    public int rootOf(int nimber) throws IllegalArgumentException {
        requireRange(nimber, GREATEST_NIMBER);
        return field.root(nimber);
    }

    public int fieldOf(int nimber) throws IllegalArgumentException {
        requireRange(nimber, GREATEST_NIMBER);
        int bits = 1;
        while (bits < BITS && nimber >> bits != 0) {
            bits *= 2;
        }
        return bits;
    }

    public int orderByPowers(int nimber) throws IllegalArgumentException {
        requireRange(nimber, GREATEST_FOR_POWERS);
        return field.orderBySteps(nimber);
    }

    public int orderByDivisors(int nimber) throws IllegalArgumentException {
        requireRange(nimber, GREATEST_NIMBER);
        return field.orderByQuotients(nimber);
    }

    public int traceOf(int nimber) throws IllegalArgumentException {
        requireRange(nimber, GREATEST_NIMBER);
        return field.trace(nimber);
    }

    public int solve(int nimber) throws IllegalArgumentException {
        requireRange(nimber, GREATEST_NIMBER);
        return field.leastSolution(nimber);
    }

    public int products() {
        return state.productCount();
    }

    public int recordedStates() {
        return history.size();
    }

    // ---- what the calls share

    private static void requireRegister(int register) {
        if (register < 0 || register >= REGISTERS) {
            throw new IndexOutOfBoundsException("there is no such register");
        }
    }

    private static void requireRange(int number, int greatest) {
        if (number < 0 || number > greatest) {
            throw new IllegalArgumentException("an argument is out of range");
        }
    }

    private void requireValidProgram() {
        if (program.read() != NONE) {
            throw new IllegalStateException("the program is not valid");
        }
    }

    /** Puts a nimber into a register as an action of its own. */
    private int replace(int register, int nimber) {
        history.record(state);
        state.put(register, nimber);
        return nimber;
    }

    /** Does the steps on the trial state, so that a trap leaves the true state as it was. */
    private int tryProgram() {
        trial.copyFrom(state);
        return program.runOn(trial, field);
    }

    /** The arithmetic of the field; every nimber given to it is from 0 to 65535. */
    private static final class Nimbers {
        /** The prime divisors of 65535, the number of nimbers but 0; each divides it once. */
        private static final int[] ORDER_DIVISORS = {3, 5, 17, 257};

        /** The product of bit i and bit j is at BITS * i + j. */
        private final int[] bitProducts;

        Nimbers() {
            bitProducts = productsOfBits();
        }

        private static int[] productsOfBits() {
            int[] known = new int[BITS * BITS];
            known[0] = 1;
            for (int half = 1; half < BITS; half *= 2) {
                addProductsBelow(2 * half, half, known);
            }
            return known;
        }

        /**
         * Adds the products of the bits below end to those of the bits below half. Bit "half" is a
         * Fermat power, and each bit from it on is this power times a bit below half.
         */
        private static void addProductsBelow(int end, int half, int[] known) {
            for (int i = 0; i < end && i < BITS; i++) {
                for (int j = 0; j < end && j < BITS; j++) {
                    if (i >= half && j >= half) {
                        int lesser = known[BITS * (i - half) + j - half];
                        known[BITS * i + j] = timesSquareOfPower(lesser, half, known);
                    } else if (i >= half) {
                        known[BITS * i + j] = known[BITS * (i - half) + j] << half;
                    } else if (j >= half) {
                        known[BITS * i + j] = known[BITS * i + j - half] << half;
                    }
                }
            }
        }

        /** The square of the Fermat power F with the given bit is F + F / 2. */
        private static int timesSquareOfPower(int lesser, int half, int[] known) {
            int sum = lesser << half;
            for (int bit = 0; bit < half && bit < BITS; bit++) {
                if ((lesser >> bit & 1) == 1) {
                    sum ^= known[BITS * bit + half - 1];
                }
            }
            return sum;
        }

        /**
         * With F the Fermat power that has the bit "half": (a F + b) (c F + d) is
         * (a c + a d + b c) F + a c (F / 2) + b d, as F F is F + F / 2.
         */
        private static int timesByHalves(int nimber, int other, int half) {
            if (half < 1 || nimber < 2 || other < 2) {
                return nimber * other;
            }
            int mask = (1 << half) - 1;
            int high = nimber >> half;
            int low = nimber & mask;
            int otherHigh = other >> half;
            int otherLow = other & mask;
            int lows = timesByHalves(low, otherLow, half / 2);
            int highs = timesByHalves(high, otherHigh, half / 2);
            int all = timesByHalves(high ^ low, otherHigh ^ otherLow, half / 2);
            int highsByHalf = timesByHalves(highs, 1 << (half - 1), half / 2);
            return ((all ^ lows) << half) ^ highsByHalf ^ lows;
        }

        int times(int nimber, int other) {
            int sum = 0;
            for (int i = 0; i < BITS; i++) {
                if ((nimber >> i & 1) == 1) {
                    for (int j = 0; j < BITS; j++) {
                        if ((other >> j & 1) == 1) {
                            sum ^= bitProducts[BITS * i + j];
                        }
                    }
                }
            }
            return sum;
        }

        /** The square of a sum is the sum of the squares, as the two mixed products cancel. */
        int square(int nimber) {
            int sum = 0;
            for (int bit = 0; bit < BITS; bit++) {
                if ((nimber >> bit & 1) == 1) {
                    sum ^= bitProducts[BITS * bit + bit];
                }
            }
            return sum;
        }

        int raised(int nimber, int exponent) {
            int result = 1;
            int repeatedSquare = nimber;
            for (int rest = exponent; rest > 0; rest /= 2) {
                if (rest % 2 == 1) {
                    result = times(result, repeatedSquare);
                }
                repeatedSquare = square(repeatedSquare);
            }
            return result;
        }

        /**
         * A nimber but 0 to the power of 65535 is 1, so that the power 65534, which is
         * 2 + 4 + 8 and so on to 32768, is its inverse. NONE if the other is 0.
         */
        int dividedBy(int nimber, int other) {
            if (other == 0) {
                return NONE;
            }
            int result = nimber;
            int repeatedSquare = other;
            for (int squarings = 1; squarings < BITS; squarings++) {
                repeatedSquare = square(repeatedSquare);
                result = times(result, repeatedSquare);
            }
            return result;
        }

        /** Sixteen squarings lead back to the nimber, so that fifteen lead to its root. */
        int root(int nimber) {
            int result = nimber;
            for (int squarings = 1; squarings < BITS; squarings++) {
                result = square(result);
            }
            return result;
        }

        /** For nimbers below 256: their order is at most 255. */
        int orderBySteps(int nimber) {
            int reached = 1;
            for (int order = 1; order <= GREATEST_FOR_POWERS; order++) {
                reached = times(reached, nimber);
                if (reached == 1) {
                    return order;
                }
            }
            return NONE;
        }

        int orderByQuotients(int nimber) {
            if (nimber == 0) {
                return NONE;
            }
            int order = GREATEST_NIMBER;
            for (int divisor : ORDER_DIVISORS) {
                if (divisor > 0 && raised(nimber, order / divisor) == 1) {
                    order /= divisor;
                }
            }
            return order;
        }

        int trace(int nimber) {
            int sum = 0;
            int repeatedSquare = nimber;
            for (int bit = 0; bit < BITS; bit++) {
                sum ^= repeatedSquare;
                repeatedSquare = square(repeatedSquare);
            }
            return sum;
        }

        /**
         * The highest bit of y * y + y, for y a bit above the lowest, is the bit below y. So each
         * bit of the nimber, from the highest, tells one bit of y. Bit 0 of y is free: the least
         * y is without it.
         */
        int leastSolution(int nimber) {
            int solution = 0;
            int rest = nimber;
            for (int bit = BITS - 1; bit > 0; bit--) {
                if ((rest >> (bit - 1) & 1) == 1) {
                    solution ^= 1 << bit;
                    rest ^= square(1 << bit) ^ (1 << bit);
                }
            }
            return rest == 0 ? solution : NONE;
        }
    }

    /** The table of products below 16, filled row by row, no further than it is asked for. */
    private static final class LeastNumberTable {
        private static final int SIZE = GREATEST_FOR_TABLE + 1;

        private final int[] cells = new int[SIZE * SIZE];
        private int filledRows;

        int cell(int row, int column) {
            if (row < 0 || row >= SIZE || column < 0 || column >= SIZE) {
                return NONE;
            }
            for (int next = filledRows; next <= row; next++) {
                fillRow(next);
                filledRows = next + 1;
            }
            return cells[SIZE * row + column];
        }

        private void fillRow(int row) {
            for (int column = 0; column < SIZE; column++) {
                int seen = seenFor(row, column);
                int least = 0;
                while (least < SIZE && (seen >> least & 1) == 1) {
                    least++;
                }
                cells[SIZE * row + column] = least;
            }
        }

        /** The numbers that the cell can't hold, as bits. */
        private int seenFor(int row, int column) {
            int seen = 0;
            for (int c = 0; c < row && c < SIZE; c++) {
                for (int d = 0; d < column && d < SIZE; d++) {
                    int number = cells[SIZE * c + column] ^ cells[SIZE * row + d] ^ cells[SIZE * c + d];
                    seen |= 1 << number;
                }
            }
            return seen;
        }
    }

    /** What undo and the snapshot keep: the registers and the number of products. */
    private static final class State {
        private final int[] nimbers = new int[REGISTERS];
        private int productCount;

        int nimberIn(int register) {
            return register < 0 || register >= REGISTERS ? 0 : nimbers[register];
        }

        void put(int register, int nimber) {
            if (register >= 0 && register < REGISTERS) {
                nimbers[register] = nimber;
            }
        }

        int productCount() {
            return productCount;
        }

        void countProduct() {
            productCount++;
        }

        void copyFrom(State other) {
            for (int register = 0; register < REGISTERS; register++) {
                nimbers[register] = other.nimberIn(register);
            }
            productCount = other.productCount();
        }

        int sum() {
            int sum = 0;
            for (int register = 0; register < REGISTERS; register++) {
                sum ^= nimbers[register];
            }
            return sum;
        }
    }

    /** The latest recorded states, the last one first. */
    private static final class History {
        private final State[] kept = new State[KEPT_STATES];
        private int size;

        History() {
            for (int place = 0; place < KEPT_STATES; place++) {
                kept[place] = new State();
            }
        }

        int size() {
            return size;
        }

        void record(State state) {
            for (int place = KEPT_STATES - 1; place > 0; place--) {
                kept[place].copyFrom(kept[place - 1]);
            }
            kept[0].copyFrom(state);
            size = Math.min(size + 1, KEPT_STATES);
        }

        /** Gives back the state recorded last; the answer is how many are left. */
        int returnTo(State state) {
            if (size > 0) {
                state.copyFrom(kept[0]);
                for (int place = 1; place < KEPT_STATES; place++) {
                    kept[place - 1].copyFrom(kept[place]);
                }
                size--;
            }
            return size;
        }
    }

    /** One step of a valid program. */
    private static final class Step {
        /** Stands for a step that has an operand alone; no program can have it as a sign. */
        private static final char COPY = (char) 0;
        /** An operand that is a register is written as this number and the register's. */
        private static final int FIRST_REGISTER = GREATEST_NIMBER + 1;

        private int target;
        private char sign;
        private int first;
        private int second;

        int target() {
            return target;
        }

        void setTarget(int register) {
            target = register;
        }

        /** For a step with one operand the second one is 0. */
        void setRightSide(char newSign, int firstOperand, int secondOperand) {
            sign = newSign;
            first = firstOperand;
            second = secondOperand;
        }

        /** Does the step; the answer is whether it could be done without a trap. */
        boolean doOn(State state, Nimbers field) {
            int result = resultOf(valueOf(first, state), valueOf(second, state), field);
            if (result == NONE) {
                return false;
            }
            state.put(target, result);
            if (sign == '*') {
                state.countProduct();
            }
            return true;
        }

        private static int valueOf(int operand, State state) {
            return operand < FIRST_REGISTER ? operand : state.nimberIn(operand - FIRST_REGISTER);
        }

        private int resultOf(int left, int right, Nimbers field) {
            switch (sign) {
                case '~':
                    return field.dividedBy(1, left);
                case '%':
                    return field.root(left);
                case '+':
                    return left ^ right;
                case '*':
                    return field.times(left, right);
                case '/':
                    return field.dividedBy(left, right);
                case '^':
                    return field.raised(left, right);
                default:
                    return left;
            }
        }
    }

    /** The text of the program, and its steps as they were read last. */
    private static final class Program {
        private final char[] text = new char[PROGRAM_ROOM];
        private final Step[] steps = new Step[STEP_ROOM];
        private int length;
        private int stepCount;
        private int cursor;

        Program() {
            for (int number = 0; number < STEP_ROOM; number++) {
                steps[number] = new Step();
            }
        }

        boolean isFull() {
            return length >= PROGRAM_ROOM;
        }

        int append(char character) {
            if (length < PROGRAM_ROOM) {
                text[length] = character;
                length++;
            }
            return length;
        }

        int empty() {
            int previous = length;
            length = 0;
            return previous;
        }

        /**
         * Reads the text into steps; the answer is the index of the first error, or NONE. A step
         * is read up to the first character that can't stand there, or to the end of the text, so
         * that the place where the reading stops is the error.
         */
        int read() {
            cursor = 0;
            stepCount = 0;
            while (stepCount < STEP_ROOM) {
                if (!readTarget(steps[stepCount]) || !readRightSide(steps[stepCount])) {
                    return cursor;
                }
                stepCount++;
                if (cursor == length) {
                    return NONE;
                }
                if (!skip(';')) {
                    return cursor;
                }
            }
            return cursor;
        }

        /** Does the steps read last; the answer is the number of the step that traps, or NONE. */
        int runOn(State state, Nimbers field) {
            for (int number = 0; number < stepCount && number < STEP_ROOM; number++) {
                if (!steps[number].doOn(state, field)) {
                    return number;
                }
            }
            return NONE;
        }

        int lastTarget() {
            return stepCount < 1 || stepCount > STEP_ROOM ? NONE : steps[stepCount - 1].target();
        }

        private boolean readTarget(Step step) {
            int register = readRegister();
            step.setTarget(register);
            return register != NONE && skip('=');
        }

        private boolean readRightSide(Step step) {
            char sign = current();
            if (sign == '~' || sign == '%') {
                cursor++;
                int operand = readOperand();
                step.setRightSide(sign, operand, 0);
                return operand != NONE;
            }
            int first = readOperand();
            if (first == NONE) {
                return false;
            }
            sign = current();
            if (sign != '+' && sign != '*' && sign != '/' && sign != '^') {
                step.setRightSide(Step.COPY, first, 0);
                return true;
            }
            cursor++;
            int second = readOperand();
            step.setRightSide(sign, first, second);
            return second != NONE;
        }

        private int readOperand() {
            int register = readRegister();
            return register == NONE ? readNumber() : Step.FIRST_REGISTER + register;
        }

        private int readRegister() {
            int register = current() - 'A';
            if (register < 0 || register >= REGISTERS) {
                return NONE;
            }
            cursor++;
            return register;
        }

        /** Stops ahead of a digit that would make the number too great or the 0 a leading one. */
        private int readNumber() {
            int number = digitOf(current());
            if (number == NONE) {
                return NONE;
            }
            cursor++;
            while (cursor < length && number > 0) {
                int digit = digitOf(current());
                if (digit == NONE || 10 * number + digit > GREATEST_NIMBER) {
                    return number;
                }
                number = 10 * number + digit;
                cursor++;
            }
            return number;
        }

        private static int digitOf(char character) {
            return character < '0' || character > '9' ? NONE : character - '0';
        }

        private boolean skip(char character) {
            if (current() != character) {
                return false;
            }
            cursor++;
            return true;
        }

        /** Behind the end there is a character that no program can have. */
        private char current() {
            return cursor >= 0 && cursor < length && cursor < PROGRAM_ROOM ? text[cursor] : (char) 0;
        }
    }
}
