import java.util.ArrayDeque;
import java.util.Arrays;
import java.util.Deque;
import java.util.regex.Matcher;
import java.util.regex.Pattern;

/** What the document says of the calls that have to do with the state, told again by the library. */
final class Model {
    static final int NO_REGISTER = -1001;
    static final int NO_ARGUMENT = -1002;
    static final int NO_STATE = -1003;

    private static final String NUMBER =
            "(?:0|[1-9][0-9]{0,3}|[1-5][0-9]{4}|6[0-4][0-9]{3}|65[0-4][0-9]{2}|655[0-2][0-9]|6553[0-5])";
    private static final String OPERAND = "(?:[A-H]|" + NUMBER + ")";
    private static final String STEP =
            "[A-H]=(?:[~%]" + OPERAND + "|" + OPERAND + "(?:[+*/^]" + OPERAND + ")?)";
    private static final Pattern PROGRAM = Pattern.compile(STEP + "(?:;" + STEP + ")*");
    private static final Pattern PARTS =
            Pattern.compile("([A-H])=([~%]?)(" + OPERAND + ")(?:([+*/^])(" + OPERAND + "))?");

    /** Registers, and behind them the number of products. */
    private int[] state = new int[9];
    private int[] snapshot;
    private final Deque<int[]> recorded = new ArrayDeque<>();
    private String program = "";

    private static boolean noRegister(int register) {
        return register < 0 || register > 7;
    }

    private void record() {
        recorded.push(state.clone());
        if (recorded.size() > 4) {
            recorded.removeLast();
        }
    }

    int set(int register, int nimber) {
        if (noRegister(register)) {
            return NO_REGISTER;
        }
        if (nimber < 0 || nimber > 65535) {
            return NO_ARGUMENT;
        }
        record();
        int previous = state[register];
        state[register] = nimber;
        return previous;
    }

    int invert(int register) {
        if (noRegister(register)) {
            return NO_REGISTER;
        }
        if (state[register] == 0) {
            return NO_STATE;
        }
        record();
        return state[register] = Reference.inverse(state[register]);
    }

    int takeRoot(int register) {
        if (noRegister(register)) {
            return NO_REGISTER;
        }
        record();
        return state[register] = Reference.root(state[register]);
    }

    int multiply(int register, int other) {
        if (noRegister(register) || noRegister(other)) {
            return NO_REGISTER;
        }
        record();
        state[8]++;
        return state[register] = Reference.times(state[register], state[other]);
    }

    int exchange(int register, int other) {
        if (noRegister(register) || noRegister(other)) {
            return NO_REGISTER;
        }
        record();
        int nimber = state[register];
        state[register] = state[other];
        state[other] = nimber;
        return state[register];
    }

    int type(char character) {
        if (program.length() == 60) {
            return NO_STATE;
        }
        program += character;
        return program.length();
    }

    int clearProgram() {
        int length = program.length();
        program = "";
        return length;
    }

    int programError() {
        for (int end = 1; end <= program.length(); end++) {
            Matcher matcher = PROGRAM.matcher(program.substring(0, end));
            if (!matcher.matches() && !matcher.hitEnd()) {
                return end - 1;
            }
        }
        return PROGRAM.matcher(program).matches() ? NimberField.NONE : program.length();
    }

    int trappedStep() {
        return programError() != NimberField.NONE ? NO_STATE : runOn(state.clone());
    }

    int carryOut() {
        if (programError() != NimberField.NONE || runOn(state.clone()) != NimberField.NONE) {
            return NO_STATE;
        }
        record();
        runOn(state);
        return state[program.charAt(program.lastIndexOf('=') - 1) - 'A'];
    }

    private int runOn(int[] registers) {
        String[] steps = program.split(";");
        for (int number = 0; number < steps.length; number++) {
            Matcher parts = PARTS.matcher(steps[number]);
            parts.matches();
            int left = valueOf(parts.group(3), registers);
            int right = parts.group(5) == null ? 0 : valueOf(parts.group(5), registers);
            String sign = parts.group(4) == null ? parts.group(2) : parts.group(4);
            if (sign.equals("~") && left == 0 || sign.equals("/") && right == 0) {
                return number;
            }
            registers[8] += sign.equals("*") ? 1 : 0;
            registers[parts.group(1).charAt(0) - 'A'] = switch (sign) {
                case "~" -> Reference.inverse(left);
                case "%" -> Reference.root(left);
                case "+" -> left ^ right;
                case "*" -> Reference.times(left, right);
                case "/" -> Reference.times(left, Reference.inverse(right));
                case "^" -> Reference.power(left, right);
                default -> left;
            };
        }
        return NimberField.NONE;
    }

    private static int valueOf(String operand, int[] registers) {
        char first = operand.charAt(0);
        return first >= 'A' ? registers[first - 'A'] : Integer.parseInt(operand);
    }

    int undo() {
        if (recorded.isEmpty()) {
            return NO_STATE;
        }
        state = recorded.pop();
        return recorded.size();
    }

    int takeSnapshot() {
        snapshot = state.clone();
        return sumOfAll();
    }

    int restoreSnapshot() {
        if (snapshot == null) {
            return NO_STATE;
        }
        record();
        state = snapshot.clone();
        return sumOfAll();
    }

    int nimberOf(int register) {
        return noRegister(register) ? NO_REGISTER : state[register];
    }

    int sumOfAll() {
        return Arrays.stream(state, 0, 8).reduce(0, (a, b) -> a ^ b);
    }

    int registerToLessen() {
        for (int register = 0; register < 8; register++) {
            int others = sumOfAll() ^ state[register];
            if (others < state[register]) {
                return register;
            }
        }
        return NimberField.NONE;
    }

    int products() {
        return state[8];
    }

    int recordedStates() {
        return recorded.size();
    }
}
