import java.util.LinkedHashMap;
import java.util.Map;
import java.util.function.Supplier;

/**
 * The boundary cases of "Undo" and "Exceptions" in the section "Terms", and of promises 12 to 14, 29
 * and 30, sentence by sentence.
 */
public final class BoundaryUndoTest {
    /** One call on an object that is given to it. */
    private interface On {
        int call(NimberField x);
    }

    private final Checks checks = new Checks("BoundaryUndoTest");
    private final Map<String, Supplier<NimberField>> objects = new LinkedHashMap<>();

    public static void main(String[] args) {
        BoundaryUndoTest test = new BoundaryUndoTest();
        test.makeObjects();
        test.eachActionRecords();
        test.anActionThatChangesNothingRecords();
        test.refusedActionRecordsNothing();
        test.onlyTheLatestFour();
        test.stateIsAllButProgramRecordedStatesAndSnapshot();
        test.throwingChangesNothing();
        test.questionsChangeNothing();
        test.undoReturnsWhatIsLeft();
        test.undoIsNoAction();
        test.undoWithoutRecordedState();
        test.firstSnapshot();
        test.snapshotReplaced();
        test.snapshotKept();
        test.restoringIsAnAction();
        test.restoringWithoutSnapshot();
        test.productsOfMultiply();
        test.productsOfSteps();
        test.productsThatDoNotCount();
        test.recordedStatesFromNoneToFour();
        test.checks.end();
    }

    /** Objects in all kinds of states, each made anew whenever it is asked for. */
    private void makeObjects() {
        objects.put("a new object", NimberField::new);
        objects.put("with a recorded state", () -> Given.registers(5));
        objects.put("with four recorded states", BoundaryUndoTest::muchUsed);
        objects.put("with a snapshot alone", () -> {
            NimberField x = new NimberField();
            x.takeSnapshot();
            return x;
        });
        objects.put("with a program that traps", () -> {
            NimberField x = muchUsed();
            Given.retype(x, "A=B*C;B=A*A;D=1/H;C=7");
            return x;
        });
        objects.put("with a program that is not valid", () -> {
            NimberField x = muchUsed();
            Given.retype(x, "A=B*C;B=A*A;D=");
            return x;
        });
        objects.put("with a full program", () -> {
            NimberField x = muchUsed();
            Given.retype(x, "A=B*C;".repeat(9) + "D=~E+1");
            return x;
        });
    }

    /** Registers but the last one with nimbers, four recorded states, a product, a program, a snapshot. */
    private static NimberField muchUsed() {
        NimberField x = Given.registers(65535, 300, 2, 3);
        x.multiply(1, 2);
        x.takeSnapshot();
        x.set(4, 40000);
        x.set(5, 1);
        x.takeRoot(0);
        Given.type(x, "A=B+C;D=%A");
        return x;
    }

    // ---- Terms: undo

    private Map<String, On> actions() {
        Map<String, On> actions = new LinkedHashMap<>();
        actions.put("set", x -> x.set(0, 65535));
        actions.put("invert", x -> x.invert(1));
        actions.put("takeRoot", x -> x.takeRoot(0));
        actions.put("multiply", x -> x.multiply(0, 1));
        actions.put("exchange", x -> x.exchange(0, 1));
        actions.put("carryOut", NimberField::carryOut);
        actions.put("restoreSnapshot", NimberField::restoreSnapshot);
        return actions;
    }

    private void eachActionRecords() {
        checks.sentence("Each successful call of a method that is described as an action "
                + "first records the current state");
        actions().forEach((name, action) -> {
            NimberField x = Given.registers(0, 7);
            x.takeSnapshot();
            x.set(0, 6);
            Given.type(x, "A=B*B;C=8");
            action.call(x);
            checks.due(name + ": recordedStates", 4, x.recordedStates());
            checks.due(name + ": undo", 3, x.undo());
            checks.due(name + ": register 0 before it", 6, x.nimberOf(0));
            checks.due(name + ": register 1 before it", 7, x.nimberOf(1));
            checks.due(name + ": sumOfAll before it", 6 ^ 7, x.sumOfAll());
            checks.due(name + ": products before it", 0, x.products());
        });
        actions().forEach((name, action) -> {
            NimberField x = new NimberField();
            x.set(1, 1);
            x.undo();
            x.takeSnapshot();
            Given.type(x, "A=B");
            if (!name.equals("invert")) {
                action.call(x);
                checks.due("the first one, " + name, 1, x.recordedStates());
            }
        });
    }

    private void anActionThatChangesNothingRecords() {
        checks.sentence("Each successful call .. first records the current state (though it stays the same)");
        NimberField x = new NimberField();
        x.set(0, 0);
        checks.due("set", 1, x.recordedStates());
        x.takeRoot(0);
        checks.due("takeRoot", 2, x.recordedStates());
        x.exchange(0, 0);
        checks.due("exchange", 3, x.recordedStates());
        x.takeSnapshot();
        x.restoreSnapshot();
        checks.due("restoreSnapshot", 4, x.recordedStates());
        NimberField y = Given.registers(1);
        Given.type(y, "A=A");
        y.invert(0);
        checks.due("invert", 2, y.recordedStates());
        y.carryOut();
        checks.due("carryOut", 3, y.recordedStates());
        y.multiply(0, 0);
        checks.due("multiply", 4, y.recordedStates());
    }

    private void refusedActionRecordsNothing() {
        checks.sentence("Each successful call");
        NimberField x = Given.registers(9);
        checks.stateThrow("invert", () -> x.invert(1));
        checks.indexThrow("set", () -> x.set(8, 0));
        checks.argumentThrow("set", () -> x.set(0, -1));
        checks.stateThrow("carryOut", x::carryOut);
        checks.stateThrow("restoreSnapshot", x::restoreSnapshot);
        checks.due("recordedStates", 1, x.recordedStates());
        checks.due("undo", 0, x.undo());
        checks.due("register 0", 0, x.nimberOf(0));
    }

    private void onlyTheLatestFour() {
        checks.sentence("only the latest 4 recorded states are kept");
        for (int count = 3; count <= 6; count++) {
            NimberField x = new NimberField();
            for (int time = 1; time <= count; time++) {
                x.set(0, 100 * time);
            }
            int kept = Math.min(count, 4);
            for (int time = 1; time <= kept; time++) {
                checks.due("undo " + time + " after " + count, kept - time, x.undo());
                checks.due("register 0", 100 * (count - time), x.nimberOf(0));
            }
            checks.stateThrow("one undo more", x::undo);
            checks.due("register 0", 100 * (count - kept), x.nimberOf(0));
        }
    }

    private void stateIsAllButProgramRecordedStatesAndSnapshot() {
        checks.sentence("The state consists of everything except the program, the recorded states and the snapshot.");
        NimberField x = Given.registers(2, 3, 0, 0, 0, 0, 0, 9);
        x.multiply(0, 1);
        x.undo();
        checks.due("the first register", 2, x.nimberOf(0));
        checks.due("the products", 0, x.products());
        x.set(7, 65535);
        x.takeSnapshot();
        Given.type(x, "A=B");
        x.undo();
        checks.due("the last register", 9, x.nimberOf(7));
        checks.due("not the program", 3, x.carryOut());
        checks.due("not the snapshot", 2 ^ 3 ^ 65535, x.restoreSnapshot());
        Given.retype(x, "A=C");
        x.restoreSnapshot();
        checks.due("not the program", 0, x.carryOut());
        checks.due("not the recorded states", 4, x.recordedStates());
    }

    // ---- Terms: exceptions

    private Map<String, On> refusedCalls() {
        Map<String, On> calls = new LinkedHashMap<>();
        for (int no : new int[] {-1, 8, Integer.MIN_VALUE, Integer.MAX_VALUE}) {
            calls.put("set(" + no + ", 1)", x -> x.set(no, 1));
            calls.put("invert(" + no + ")", x -> x.invert(no));
            calls.put("takeRoot(" + no + ")", x -> x.takeRoot(no));
            calls.put("multiply(" + no + ", 0)", x -> x.multiply(no, 0));
            calls.put("multiply(0, " + no + ")", x -> x.multiply(0, no));
            calls.put("exchange(" + no + ", 0)", x -> x.exchange(no, 0));
            calls.put("exchange(0, " + no + ")", x -> x.exchange(0, no));
            calls.put("nimberOf(" + no + ")", x -> x.nimberOf(no));
        }
        for (int no : new int[] {-1, 65536, Integer.MIN_VALUE, Integer.MAX_VALUE}) {
            for (NimberCall call : NimberCall.ALL) {
                calls.put(call.name() + " of " + no, x -> call.of(x, no));
            }
        }
        calls.put("power(1, -1)", x -> x.power(1, -1));
        calls.put("power(1, 1000000001)", x -> x.power(1, 1000000001));
        calls.put("productByTable(16, 0)", x -> x.productByTable(16, 0));
        calls.put("productByTable(0, -1)", x -> x.productByTable(0, -1));
        calls.put("orderByPowers(256)", x -> x.orderByPowers(256));
        calls.put("orderByPowers(-1)", x -> x.orderByPowers(-1));
        return calls;
    }

    private void throwingChangesNothing() {
        checks.sentence("A call that throws an exception changes nothing.");
        objects.forEach((name, object) -> {
            refusedCalls().forEach((call, on) -> dueRefusal(call + " on " + name, object, on));
            dueRefusal("invert(7) on " + name, object, x -> x.invert(7));
        });
        dueRefusals("a new object", "undo", "restoreSnapshot", "carryOut", "trappedStep");
        dueRefusals("with a recorded state", "restoreSnapshot", "carryOut", "trappedStep");
        dueRefusals("with a snapshot alone", "undo", "carryOut", "trappedStep");
        dueRefusals("with a program that traps", "carryOut");
        dueRefusals("with a program that is not valid", "carryOut", "trappedStep");
        dueRefusals("with a full program", "type", "carryOut", "trappedStep");
    }

    private void dueRefusals(String name, String... calls) {
        Map<String, On> ways = Map.of("undo", NimberField::undo, "restoreSnapshot", NimberField::restoreSnapshot,
                "carryOut", NimberField::carryOut, "trappedStep", NimberField::trappedStep, "type", x -> x.type('A'));
        for (String call : calls) {
            dueRefusal(call + " on " + name, objects.get(name), ways.get(call));
        }
    }

    private void dueRefusal(String what, Supplier<NimberField> object, On on) {
        NimberField x = object.get();
        boolean refused = false;
        try {
            on.call(x);
        } catch (IndexOutOfBoundsException | IllegalArgumentException | IllegalStateException thrown) {
            refused = true;
        }
        checks.holds(what + " throws", refused);
        checks.holds(what + " changes nothing", Portrait.of(x).equals(Portrait.of(object.get())));
    }

    /** The calls that are no actions and change no program: they ask alone. */
    private void questionsChangeNothing() {
        checks.sentence("Nothing is promised beyond the answers and state changes described above");
        Map<String, On> questions = new LinkedHashMap<>();
        questions.put("programError", NimberField::programError);
        questions.put("nimberOf", x -> x.nimberOf(7));
        questions.put("sumOfAll", NimberField::sumOfAll);
        questions.put("registerToLessen", NimberField::registerToLessen);
        questions.put("productByTable", x -> x.productByTable(15, 15));
        questions.put("orderByPowers", x -> x.orderByPowers(255));
        questions.put("products", NimberField::products);
        questions.put("recordedStates", NimberField::recordedStates);
        for (NimberCall call : NimberCall.ALL) {
            if (!call.name().equals("set")) {
                questions.put(call.name(), x -> call.of(x, 65535));
            }
        }
        objects.forEach((name, object) -> questions.forEach((question, on) -> dueNoChange(
                question + " on " + name, object, on)));
        dueNoChange("trappedStep, none", objects.get("with four recorded states"), NimberField::trappedStep);
        dueNoChange("trappedStep", objects.get("with a program that traps"), NimberField::trappedStep);
        dueNoChange("takeSnapshot again", objects.get("with a snapshot alone"), NimberField::takeSnapshot);
    }

    private void dueNoChange(String what, Supplier<NimberField> object, On on) {
        NimberField x = object.get();
        on.call(x);
        checks.holds(what + " changes nothing", Portrait.of(x).equals(Portrait.of(object.get())));
    }

    // ---- 12

    private void undoReturnsWhatIsLeft() {
        checks.sentence("12: Returns the number of recorded states that are left.");
        checks.due("the only one", 0, Given.registers(1).undo());
        checks.due("of four", 3, Given.registers(1, 2, 3, 4).undo());
        checks.due("of more", 3, Given.registers(1, 2, 3, 4, 5).undo());
        NimberField x = Given.registers(1, 2, 3, 4, 5);
        x.undo();
        checks.due("recordedStates", 3, x.recordedStates());
        x.set(0, 6);
        checks.due("recordedStates after an action", 4, x.recordedStates());
        checks.due("undo", 3, x.undo());
        checks.due("undo", 2, x.undo());
        checks.due("undo", 1, x.undo());
        checks.due("undo", 0, x.undo());
        checks.due("the state after the first action", 1, x.sumOfAll());
    }

    private void undoIsNoAction() {
        checks.sentence("12: Returns to the state that was recorded last, "
                + "and discards it from the recorded states.");
        NimberField x = Given.registers(1, 2);
        x.undo();
        checks.due("the second set is undone", 0, x.nimberOf(1));
        x.undo();
        checks.due("the first set is undone", 0, x.nimberOf(0));
        checks.due("recordedStates", 0, x.recordedStates());
    }

    private void undoWithoutRecordedState() {
        checks.sentence("12: Throws IllegalStateException if no state is recorded");
        checks.stateThrow("a new object", new NimberField()::undo);
        NimberField x = Given.registers(1);
        x.undo();
        checks.stateThrow("all are undone", x::undo);
        checks.stateThrow("again", x::undo);
        checks.due("recordedStates", 0, x.recordedStates());
        x.set(0, 2);
        checks.due("after an action", 0, x.undo());
        NimberField y = new NimberField();
        y.takeSnapshot();
        Given.type(y, "A=1");
        y.trappedStep();
        y.clearProgram();
        checks.stateThrow("nothing of this is an action", y::undo);
    }

    // ---- 13, 14

    private void firstSnapshot() {
        checks.sentence("13: Returns the sum of the nimbers of all registers.");
        checks.due("all 0", 0, new NimberField().takeSnapshot());
        checks.due("65535", 65535, Given.registers(0, 0, 0, 0, 0, 0, 0, 65535).takeSnapshot());
        checks.due("1 + 2 + 3", 0, Given.registers(1, 2, 3).takeSnapshot());
        NimberField x = new NimberField();
        x.takeSnapshot();
        checks.due("it is no action", 0, x.recordedStates());
    }

    private void snapshotReplaced() {
        checks.sentence("13: Takes a snapshot of the state, which replaces the previous snapshot.");
        NimberField x = new NimberField();
        x.takeSnapshot();
        x.set(0, 65535);
        x.multiply(0, 0);
        x.takeSnapshot();
        x.set(0, 1);
        checks.due("restoreSnapshot", 40111, x.restoreSnapshot());
        checks.due("products", 1, x.products());
        checks.due("register 0", 40111, x.nimberOf(0));
    }

    private void snapshotKept() {
        checks.sentence("14: Returns to the state of the snapshot, which is kept.");
        NimberField x = Given.registers(7, 0, 0, 0, 0, 0, 0, 8);
        x.takeSnapshot();
        for (int time = 1; time <= 6; time++) {
            x.set(0, 100 + time);
            x.multiply(7, 7);
            checks.due("restoreSnapshot", 7 ^ 8, x.restoreSnapshot());
            checks.due("the first register", 7, x.nimberOf(0));
            checks.due("the last register", 8, x.nimberOf(7));
            checks.due("products", 0, x.products());
        }
        checks.due("twice at once", 7 ^ 8, x.restoreSnapshot());
    }

    private void restoringIsAnAction() {
        checks.sentence("14: This is an action. Returns the sum of the nimbers of all registers afterwards.");
        NimberField x = new NimberField();
        checks.due("takeSnapshot", 0, x.takeSnapshot());
        checks.due("restoreSnapshot", 0, x.restoreSnapshot());
        checks.due("recordedStates", 1, x.recordedStates());
        x.set(0, 65535);
        checks.due("restoreSnapshot", 0, x.restoreSnapshot());
        checks.due("undo", 2, x.undo());
        checks.due("the state before the restoring", 65535, x.nimberOf(0));
        for (int time = 1; time <= 5; time++) {
            x.restoreSnapshot();
        }
        checks.due("recordedStates", 4, x.recordedStates());
    }

    private void restoringWithoutSnapshot() {
        checks.sentence("14: Throws IllegalStateException if there is no snapshot");
        checks.stateThrow("a new object", new NimberField()::restoreSnapshot);
        NimberField x = Given.registers(1, 2, 3, 4, 5);
        checks.stateThrow("recorded states are no snapshots", x::restoreSnapshot);
        x.undo();
        checks.stateThrow("after undo", x::restoreSnapshot);
        x.takeSnapshot();
        x.undo();
        x.undo();
        x.undo();
        checks.due("undo takes no snapshot away", 1 ^ 2 ^ 3 ^ 4, x.restoreSnapshot());
    }

    // ---- 29, 30

    private void productsOfMultiply() {
        checks.sentence("29: Returns the number of products that have been put into registers so far: by multiply()");
        NimberField x = new NimberField();
        checks.due("none", 0, x.products());
        x.multiply(0, 0);
        checks.due("0 by itself", 1, x.products());
        x.set(0, 1);
        x.multiply(0, 0);
        checks.due("1 by itself", 2, x.products());
        checks.indexThrow("multiply(0, 8)", () -> x.multiply(0, 8));
        checks.due("a refused one", 2, x.products());
        for (int count = 3; count <= 300; count++) {
            x.multiply(7, 0);
        }
        checks.due("many", 300, x.products());
    }

    private void productsOfSteps() {
        checks.sentence("29: and by steps with \"*\" that were done by carryOut().");
        NimberField x = Given.program("A=0*0;".repeat(10));
        checks.stateThrow("carryOut of a program that is not valid", x::carryOut);
        checks.due("refused", 0, x.products());
        Given.retype(x, "A=0*0;".repeat(9) + "A=H*H");
        x.trappedStep();
        checks.due("trappedStep", 0, x.products());
        x.carryOut();
        checks.due("ten of them", 10, x.products());
        x.carryOut();
        checks.due("and ten again", 20, x.products());
        x.undo();
        checks.due("undone", 10, x.products());
        Given.retype(x, "A=1*1;A=~0");
        checks.stateThrow("a trap", x::carryOut);
        checks.due("none that traps", 10, x.products());
    }

    private void productsThatDoNotCount() {
        checks.sentence("29: products that have been put into registers (and no others)");
        NimberField x = Given.registers(5, 6);
        x.productByHalves(5, 6);
        x.productByBits(5, 6);
        x.productByTable(5, 6);
        x.quotient(5, 6);
        x.power(5, 6);
        x.invert(0);
        x.takeRoot(0);
        x.exchange(0, 1);
        Given.type(x, "A=5;B=A+6;C=~5;D=%5;E=5/6;F=5^6");
        x.carryOut();
        checks.due("products", 0, x.products());
    }

    private void recordedStatesFromNoneToFour() {
        checks.sentence("30: Returns the number of recorded states.");
        NimberField x = new NimberField();
        checks.due("none", 0, x.recordedStates());
        for (int count = 1; count <= 6; count++) {
            x.set(0, count);
            checks.due("recordedStates", Math.min(count, 4), x.recordedStates());
        }
        for (int left = 3; left >= 0; left--) {
            x.undo();
            checks.due("recordedStates", left, x.recordedStates());
        }
        checks.stateThrow("undo", x::undo);
        checks.due("recordedStates", 0, x.recordedStates());
    }
}
