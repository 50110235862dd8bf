/** Many repeatable runs of 512 calls on new objects, each answer compared with the model's. */
public final class RandomRunsTest {
    private static final int RUNS = 1500;
    private static final int CALLS = 512;
    private static final String SIGNS = "=;+*/^~%ABCDEFGHI0123456789 a-";

    private final Checks checks = new Checks("RandomRunsTest");
    private long seed = 2026;
    private NimberField object;
    private Model model;
    private String pending;

    public static void main(String[] args) {
        RandomRunsTest test = new RandomRunsTest();
        for (int run = 0; run < RUNS; run++) {
            test.run(run);
        }
        test.checks.end();
    }

    private int choose(int limit) {
        seed = seed * 6364136223846793005L + 1442695040888963407L;
        return (int) ((seed >>> 33) % limit);
    }

    private void run(int run) {
        object = new NimberField();
        model = new Model();
        pending = "";
        for (int call = 0; call < CALLS; call++) {
            if (pending.isEmpty()) {
                chooseCall(run);
            } else {
                typeNext(run);
            }
        }
    }

    private void typeNext(int run) {
        char character = pending.charAt(0);
        pending = pending.substring(1);
        compare(run, "type " + (int) character, model.type(character), () -> object.type(character));
    }

    private int register() {
        return choose(20) == 0 ? choose(14) - 3 : choose(8);
    }

    private int nimber() {
        int kind = choose(6);
        return kind == 0 ? choose(70000) - 100 : kind == 1 ? 0 : kind == 2 ? choose(16) : choose(65536);
    }

    private void chooseCall(int run) {
        int kind = choose(22);
        int first = register();
        int second = register();
        int number = nimber();
        switch (kind) {
            case 0, 1, 2 -> compare(run, "set", model.set(first, number), () -> object.set(first, number));
            case 3 -> compare(run, "invert", model.invert(first), () -> object.invert(first));
            case 4 -> compare(run, "takeRoot", model.takeRoot(first), () -> object.takeRoot(first));
            case 5 -> compare(run, "multiply", model.multiply(first, second),
                    () -> object.multiply(first, second));
            case 6 -> compare(run, "exchange", model.exchange(first, second),
                    () -> object.exchange(first, second));
            case 7, 8 -> beginProgram(run);
            case 9 -> compare(run, "programError", model.programError(), object::programError);
            case 10 -> compare(run, "trappedStep", model.trappedStep(), object::trappedStep);
            case 11, 12 -> compare(run, "carryOut", model.carryOut(), object::carryOut);
            case 13, 14 -> compare(run, "undo", model.undo(), object::undo);
            case 15 -> compare(run, "takeSnapshot", model.takeSnapshot(), object::takeSnapshot);
            case 16 -> compare(run, "restoreSnapshot", model.restoreSnapshot(), object::restoreSnapshot);
            case 17 -> compare(run, "nimberOf", model.nimberOf(first), () -> object.nimberOf(first));
            case 18 -> compare(run, "sumOfAll", model.sumOfAll(), object::sumOfAll);
            case 19 -> compare(run, "registerToLessen", model.registerToLessen(), object::registerToLessen);
            case 20 -> compare(run, "products", model.products(), object::products);
            default -> compare(run, "recordedStates", model.recordedStates(), object::recordedStates);
        }
    }

    private void beginProgram(int run) {
        if (choose(4) != 0) {
            compare(run, "clearProgram", model.clearProgram(), object::clearProgram);
        }
        StringBuilder program = new StringBuilder();
        int steps = 1 + choose(choose(8) == 0 ? 15 : 4);
        for (int step = 0; step < steps; step++) {
            program.append(step == 0 ? "" : ";").append((char) ('A' + choose(8))).append('=');
            appendRightSide(program);
        }
        if (choose(4) == 0) {
            program.setCharAt(choose(program.length()), SIGNS.charAt(choose(SIGNS.length())));
        }
        pending = program.toString();
    }

    private void appendRightSide(StringBuilder program) {
        int kind = choose(7);
        if (kind < 2) {
            program.append("~%".charAt(kind)).append(operand());
        } else {
            program.append(operand());
            if (kind < 6) {
                program.append("+*/^".charAt(kind - 2)).append(operand());
            }
        }
    }

    private String operand() {
        int kind = choose(8);
        if (kind < 5) {
            return String.valueOf((char) ('A' + choose(8)));
        }
        return String.valueOf(kind == 5 ? choose(10) : kind == 6 ? choose(65536) : 65530 + choose(9));
    }

    private void compare(int run, String what, int due, Checks.Call call) {
        checks.due("run " + run + ": " + what, due, outcome(call));
    }

    /** Another exception than the three of the document, or one from the machine, ends the test. */
    private static int outcome(Checks.Call call) {
        try {
            return call.answer();
        } catch (IndexOutOfBoundsException thrown) {
            return ifExactly(IndexOutOfBoundsException.class, thrown, Model.NO_REGISTER);
        } catch (IllegalArgumentException thrown) {
            return ifExactly(IllegalArgumentException.class, thrown, Model.NO_ARGUMENT);
        } catch (IllegalStateException thrown) {
            return ifExactly(IllegalStateException.class, thrown, Model.NO_STATE);
        }
    }

    private static int ifExactly(Class<?> due, RuntimeException thrown, int code) {
        if (thrown.getClass() != due) {
            throw thrown;
        }
        return code;
    }
}
