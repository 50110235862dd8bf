/** Promises 12 to 14 and 30, and that a call that throws changes nothing. */
public final class UndoTest {
    private final Checks checks = new Checks("UndoTest");

    public static void main(String[] args) {
        UndoTest test = new UndoTest();
        test.onlyFourAreKept();
        test.undoneOneByOne();
        test.nothingToUndo();
        test.snapshots();
        test.snapshotIsNoPartOfTheState();
        test.restoringIsAnAction();
        test.whatIsNoAction();
        test.throwingChangesNothing();
        test.checks.end();
    }

    private void onlyFourAreKept() {
        NimberField x = new NimberField();
        for (int count = 1; count <= 9; count++) {
            x.set(0, count);
            checks.due("recordedStates", Math.min(count, 4), x.recordedStates());
        }
        for (int left = 3; left >= 0; left--) {
            checks.due("undo", left, x.undo());
            checks.due("recordedStates", left, x.recordedStates());
            checks.due("register 0", left + 5, x.nimberOf(0));
        }
        checks.stateThrow("undo", x::undo);
        checks.due("register 0", 5, x.nimberOf(0));
    }

    private void undoneOneByOne() {
        NimberField x = new NimberField();
        x.set(0, 6);
        x.set(1, 7);
        checks.due("undo", 1, x.undo());
        x.multiply(0, 0);
        checks.due("recordedStates", 2, x.recordedStates());
        checks.due("undo", 1, x.undo());
        checks.due("register 0", 6, x.nimberOf(0));
        checks.due("register 1", 0, x.nimberOf(1));
        checks.due("products", 0, x.products());
        checks.due("undo", 0, x.undo());
        checks.due("register 0", 0, x.nimberOf(0));
    }

    private void nothingToUndo() {
        NimberField x = new NimberField();
        checks.stateThrow("undo", x::undo);
        x.takeSnapshot();
        Given.type(x, "A=1");
        checks.stateThrow("undo", x::undo);
        checks.due("length", 3, x.clearProgram());
    }

    private void snapshots() {
        NimberField x = new NimberField();
        checks.stateThrow("restoreSnapshot", x::restoreSnapshot);
        checks.due("recordedStates", 0, x.recordedStates());
        x.set(0, 5);
        x.set(3, 6);
        x.multiply(0, 3);
        int product = Reference.times(5, 6);
        checks.due("takeSnapshot", product ^ 6, x.takeSnapshot());
        x.set(0, 100);
        x.multiply(3, 0);
        checks.due("restoreSnapshot", product ^ 6, x.restoreSnapshot());
        checks.due("register 0", product, x.nimberOf(0));
        checks.due("register 3", 6, x.nimberOf(3));
        checks.due("products", 1, x.products());
        x.set(0, 1);
        checks.due("the snapshot is kept", product ^ 6, x.restoreSnapshot());
        x.set(0, 1);
        checks.due("the snapshot is replaced", 7, x.takeSnapshot());
        x.set(0, 2);
        checks.due("restoreSnapshot", 7, x.restoreSnapshot());
        checks.due("register 0", 1, x.nimberOf(0));
    }

    private void snapshotIsNoPartOfTheState() {
        NimberField x = new NimberField();
        x.set(0, 1);
        x.takeSnapshot();
        x.set(0, 2);
        x.set(0, 3);
        x.takeSnapshot();
        x.undo();
        x.undo();
        checks.due("register 0", 1, x.nimberOf(0));
        checks.due("restoreSnapshot", 3, x.restoreSnapshot());
        Given.type(x, "B=4");
        checks.due("undo", 1, x.undo());
        checks.due("the program stays with undo", 4, x.carryOut());
        checks.due("restoreSnapshot", 3, x.restoreSnapshot());
        checks.due("the program stays with the snapshot", 3, x.clearProgram());
    }

    private void restoringIsAnAction() {
        NimberField x = new NimberField();
        x.takeSnapshot();
        checks.due("restoreSnapshot", 0, x.restoreSnapshot());
        checks.due("recordedStates", 1, x.recordedStates());
        x.set(2, 8);
        x.multiply(2, 2);
        x.restoreSnapshot();
        checks.due("recordedStates", 4, x.recordedStates());
        checks.due("products", 0, x.products());
        checks.due("undo", 3, x.undo());
        checks.due("register 2", Reference.square(8), x.nimberOf(2));
        checks.due("products", 1, x.products());
    }

    private void whatIsNoAction() {
        NimberField x = new NimberField();
        Given.type(x, "A=1;B=1/A");
        x.programError();
        x.trappedStep();
        x.takeSnapshot();
        x.nimberOf(0);
        x.sumOfAll();
        x.registerToLessen();
        x.productByTable(3, 3);
        x.quotient(3, 3);
        x.products();
        x.clearProgram();
        checks.due("recordedStates", 0, x.recordedStates());
        x.set(0, 0);
        checks.due("an action that changes no register", 1, x.recordedStates());
    }

    private void throwingChangesNothing() {
        NimberField x = new NimberField();
        x.set(0, 1);
        x.takeSnapshot();
        x.set(0, 2);
        x.multiply(0, 0);
        x.set(1, 9);
        x.set(2, 10);
        Given.type(x, "C=5*5;D=1/H");
        checks.indexThrow("set", () -> x.set(8, 1));
        checks.argumentThrow("set", () -> x.set(0, 65536));
        checks.indexThrow("invert", () -> x.invert(-1));
        checks.stateThrow("invert", () -> x.invert(7));
        checks.indexThrow("takeRoot", () -> x.takeRoot(8));
        checks.indexThrow("multiply", () -> x.multiply(0, 8));
        checks.indexThrow("multiply", () -> x.multiply(8, 0));
        checks.indexThrow("exchange", () -> x.exchange(0, -1));
        checks.indexThrow("exchange", () -> x.exchange(-1, 0));
        checks.stateThrow("carryOut", x::carryOut);
        x.type('H');
        checks.stateThrow("carryOut", x::carryOut);
        checks.stateThrow("trappedStep", x::trappedStep);
        checks.indexThrow("nimberOf", () -> x.nimberOf(8));
        checks.argumentThrow("power", () -> x.power(2, -1));
        checks.due("register 0", 3, x.nimberOf(0));
        checks.due("sumOfAll", 3 ^ 9 ^ 10, x.sumOfAll());
        checks.due("products", 1, x.products());
        checks.due("length", 12, x.clearProgram());
        checks.due("undo", 3, x.undo());
        checks.due("sumOfAll", 3 ^ 9, x.sumOfAll());
        checks.due("undo", 2, x.undo());
        checks.due("sumOfAll", 3, x.sumOfAll());
        checks.due("undo", 1, x.undo());
        checks.due("sumOfAll", 2, x.sumOfAll());
        checks.due("undo", 0, x.undo());
        checks.due("sumOfAll", 1, x.sumOfAll());
        checks.stateThrow("undo", x::undo);
        x.set(4, 70);
        checks.due("restoreSnapshot", 1, x.restoreSnapshot());
        fullProgram();
    }

    private void fullProgram() {
        NimberField x = new NimberField();
        Given.type(x, "A=1;".repeat(14) + "B=77");
        checks.stateThrow("type", () -> x.type('7'));
        checks.due("programError", NimberField.NONE, x.programError());
        checks.due("carryOut", 77, x.carryOut());
        checks.due("length", 60, x.clearProgram());
    }
}
