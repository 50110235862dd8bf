/**
 * All that the calls tell of an object, as one text: registers, count of products, recorded states,
 * program and snapshot. Two objects with the same portrait can't be told apart. The object is used
 * up by it.
 */
final class Portrait {
    private final NimberField x;
    private final StringBuilder text = new StringBuilder();

    private Portrait(NimberField x) {
        this.x = x;
    }

    static String of(NimberField x) {
        Portrait portrait = new Portrait(x);
        portrait.tellState();
        portrait.tellProgram();
        portrait.tellRecordedStates();
        portrait.tell("restoreSnapshot", x::restoreSnapshot);
        portrait.tellState();
        portrait.tellSteps();
        return portrait.text.toString();
    }

    private void tell(String name, Checks.Call call) {
        text.append(name).append(' ');
        try {
            text.append(call.answer());
        } catch (RuntimeException thrown) {
            text.append(thrown.getClass().getName());
        }
        text.append('\n');
    }

    private void tellState() {
        for (int register = 0; register < 8; register++) {
            int number = register;
            tell("register", () -> x.nimberOf(number));
        }
        tell("sumOfAll", x::sumOfAll);
        tell("registerToLessen", x::registerToLessen);
        tell("products", x::products);
        tell("recordedStates", x::recordedStates);
    }

    private void tellProgram() {
        tell("programError", x::programError);
        tell("trappedStep", x::trappedStep);
    }

    /** Five times, as the fifth one has to be refused. */
    private void tellRecordedStates() {
        for (int time = 1; time <= 5; time++) {
            tell("undo", x::undo);
            tellState();
        }
    }

    /** Nimbers of many bits in all registers make the steps of the program visible. */
    private void tellSteps() {
        for (int register = 0; register < 8; register++) {
            x.set(register, 23456 + 789 * register);
        }
        tellProgram();
        tell("carryOut", x::carryOut);
        tellState();
        tell("clearProgram", x::clearProgram);
    }
}
