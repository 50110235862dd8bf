/** Promises 1 to 6, 15 to 17 and 29: the registers and the actions on them. */
public final class RegisterTest {
    private static final int[] NO_REGISTERS = {-1, 8, 9, Integer.MIN_VALUE, Integer.MAX_VALUE};

    private final Checks checks = new Checks("RegisterTest");

    public static void main(String[] args) {
        RegisterTest test = new RegisterTest();
        test.newObject();
        test.settingRegisters();
        test.inverting();
        test.takingRoots();
        test.multiplying();
        test.exchanging();
        test.sums();
        test.lessening();
        test.countingProducts();
        test.wrongRegisters();
        test.firstExceptionListed();
        test.checks.end();
    }

    private void dueRegisters(String what, NimberField x, int... due) {
        for (int register = 0; register < 8; register++) {
            int nimber = register < due.length ? due[register] : 0;
            checks.due(what + ": register " + register, nimber, x.nimberOf(register));
        }
    }

    private void newObject() {
        NimberField x = new NimberField();
        dueRegisters("a new object", x);
        checks.due("sumOfAll", 0, x.sumOfAll());
        checks.due("registerToLessen", NimberField.NONE, x.registerToLessen());
        checks.due("products", 0, x.products());
        checks.due("recordedStates", 0, x.recordedStates());
        checks.due("programError", 0, x.programError());
        checks.due("clearProgram", 0, x.clearProgram());
        checks.stateThrow("undo", x::undo);
        checks.stateThrow("restoreSnapshot", x::restoreSnapshot);
        checks.due("NONE", -1, NimberField.NONE);
    }

    private void settingRegisters() {
        NimberField x = new NimberField();
        checks.due("set(0, 5)", 0, x.set(0, 5));
        checks.due("set(0, 65535)", 5, x.set(0, 65535));
        checks.due("set(7, 0)", 0, x.set(7, 0));
        checks.due("set(7, 9)", 0, x.set(7, 9));
        checks.due("recordedStates", 4, x.recordedStates());
        dueRegisters("set", x, 65535, 0, 0, 0, 0, 0, 0, 9);
        checks.due("set(0, 65535)", 65535, x.set(0, 65535));
        for (int wrong : new int[] {-1, 65536, Integer.MIN_VALUE, Integer.MAX_VALUE}) {
            checks.argumentThrow("set(0, " + wrong + ")", () -> x.set(0, wrong));
        }
        dueRegisters("set that throws", x, 65535, 0, 0, 0, 0, 0, 0, 9);
    }

    private void inverting() {
        NimberField x = Given.registers(2, 1, 65535);
        checks.due("invert(0)", 3, x.invert(0));
        checks.due("invert(1)", 1, x.invert(1));
        checks.due("invert(2)", 1280, x.invert(2));
        dueRegisters("invert", x, 3, 1, 1280);
        checks.due("undo", 3, x.undo());
        dueRegisters("undone", x, 3, 1, 65535);
        checks.stateThrow("invert(3)", () -> x.invert(3));
        checks.due("recordedStates", 3, x.recordedStates());
        checks.due("products", 0, x.products());
    }

    private void takingRoots() {
        NimberField x = Given.registers(3, 0, 65535);
        checks.due("takeRoot(0)", 2, x.takeRoot(0));
        checks.due("takeRoot(1)", 0, x.takeRoot(1));
        checks.due("takeRoot(2)", 47281, x.takeRoot(2));
        dueRegisters("takeRoot", x, 2, 0, 47281);
        checks.due("undo", 3, x.undo());
        checks.due("undo", 2, x.undo());
        dueRegisters("a root of 0 is an action", x, 2, 0, 65535);
        checks.due("products", 0, x.products());
    }

    private void multiplying() {
        NimberField x = Given.registers(5, 300, 0, 256);
        checks.due("multiply(0, 1)", 1441, x.multiply(0, 1));
        dueRegisters("multiply", x, 1441, 300, 0, 256);
        checks.due("multiply(3, 3)", 384, x.multiply(3, 3));
        checks.due("multiply(1, 2)", 0, x.multiply(1, 2));
        checks.due("multiply(7, 7)", 0, x.multiply(7, 7));
        dueRegisters("multiply", x, 1441, 0, 0, 384);
        checks.due("recordedStates", 4, x.recordedStates());
        x.undo();
        x.undo();
        dueRegisters("undone", x, 1441, 300, 0, 384);
        checks.due("products", 2, x.products());
    }

    private void exchanging() {
        NimberField x = Given.registers(1, 2, 3);
        checks.due("exchange(0, 2)", 3, x.exchange(0, 2));
        dueRegisters("exchange", x, 3, 2, 1);
        checks.due("exchange(2, 7)", 0, x.exchange(2, 7));
        dueRegisters("exchange", x, 3, 2, 0, 0, 0, 0, 0, 1);
        checks.due("exchange(1, 1)", 2, x.exchange(1, 1));
        checks.due("undo", 3, x.undo());
        dueRegisters("the same with itself is an action", x, 3, 2, 0, 0, 0, 0, 0, 1);
        x.undo();
        dueRegisters("undone", x, 3, 2, 1);
    }

    private void sums() {
        checks.due("sumOfAll", 7, Given.registers(1, 2, 4).sumOfAll());
        checks.due("sumOfAll", 0, Given.registers(1, 2, 3).sumOfAll());
        checks.due("sumOfAll", 65535, Given.registers(0, 0, 0, 65280, 0, 0, 0, 255).sumOfAll());
        checks.due("sumOfAll", 0, Given.registers(9, 9, 9, 9, 9, 9, 9, 9).sumOfAll());
    }

    private void lessening() {
        checks.due("registerToLessen", 0, Given.registers(7, 7, 7).registerToLessen());
        checks.due("registerToLessen", 2, Given.registers(1, 2, 4).registerToLessen());
        checks.due("registerToLessen", 7, Given.registers(1, 2, 4, 0, 0, 0, 0, 65535).registerToLessen());
        checks.due("registerToLessen", NimberField.NONE, Given.registers(1, 2, 3).registerToLessen());
        checks.due("registerToLessen", 1, Given.registers(4, 8, 8, 8).registerToLessen());
        checks.due("registerToLessen", 0, Given.registers(3, 1).registerToLessen());
        checks.due("registerToLessen", 1, Given.registers(1, 3).registerToLessen());
        NimberField x = Given.registers(3, 5, 9);
        int chosen = x.registerToLessen();
        checks.due("registerToLessen", 2, chosen);
        x.set(chosen, x.nimberOf(chosen) ^ x.sumOfAll());
        checks.due("sum after the lessening", 0, x.sumOfAll());
    }

    private void countingProducts() {
        NimberField x = Given.registers(3, 5);
        for (int count = 1; count <= 6; count++) {
            x.multiply(0, 1);
            checks.due("products", count, x.products());
        }
        x.undo();
        checks.due("products after undo", 5, x.products());
        x.takeSnapshot();
        x.multiply(2, 2);
        checks.due("products", 6, x.products());
        x.restoreSnapshot();
        checks.due("products of the snapshot", 5, x.products());
        x.invert(0);
        x.takeRoot(0);
        x.exchange(0, 1);
        checks.due("products", 5, x.products());
    }

    private void wrongRegisters() {
        NimberField x = Given.registers(11, 12);
        for (int no : NO_REGISTERS) {
            checks.indexThrow("set", () -> x.set(no, 1));
            checks.indexThrow("invert", () -> x.invert(no));
            checks.indexThrow("takeRoot", () -> x.takeRoot(no));
            checks.indexThrow("multiply", () -> x.multiply(no, 0));
            checks.indexThrow("multiply", () -> x.multiply(0, no));
            checks.indexThrow("exchange", () -> x.exchange(no, 0));
            checks.indexThrow("exchange", () -> x.exchange(0, no));
            checks.indexThrow("nimberOf", () -> x.nimberOf(no));
        }
        dueRegisters("calls that throw", x, 11, 12);
        checks.due("recordedStates", 2, x.recordedStates());
        checks.due("products", 0, x.products());
    }

    private void firstExceptionListed() {
        NimberField x = new NimberField();
        checks.indexThrow("set(8, 65536)", () -> x.set(8, 65536));
        checks.indexThrow("set(-1, -1)", () -> x.set(-1, -1));
        checks.argumentThrow("set(7, -1)", () -> x.set(7, -1));
        checks.indexThrow("invert(8)", () -> x.invert(8));
        checks.stateThrow("invert(7)", () -> x.invert(7));
    }
}
