/** The boundary cases of promises 1 to 6 and 15 to 17, sentence by sentence. */
public final class BoundaryRegistersTest {
    private static final int[] NO_REGISTERS = {-1, 8, -8, 65536, Integer.MIN_VALUE, Integer.MAX_VALUE};
    private static final int[] NO_NIMBERS = {-1, 65536, -65536, 65537, Integer.MIN_VALUE, Integer.MAX_VALUE};

    private final Checks checks = new Checks("BoundaryRegistersTest");

    public static void main(String[] args) {
        BoundaryRegistersTest test = new BoundaryRegistersTest();
        test.newObject();
        test.newObjectsShareNothing();
        test.setFirstAndLastRegister();
        test.setLeastAndGreatestNimber();
        test.setReturnsThePreviousNimber();
        test.setWithoutSuchARegister();
        test.setOutOfRange();
        test.setWithBothWrong();
        test.invertFirstAndLastRegister();
        test.invertReturnsTheInverse();
        test.invertWithoutSuchARegister();
        test.invertZero();
        test.rootInFirstAndLastRegister();
        test.rootOfLeastAndGreatest();
        test.rootWithoutSuchARegister();
        test.multiplyFirstAndLastRegister();
        test.multiplyByItself();
        test.multiplyByLeastAndGreatest();
        test.multiplyWithoutSuchARegister();
        test.exchangeFirstAndLastRegister();
        test.exchangeWithItself();
        test.exchangeWithoutSuchARegister();
        test.nimberOfFirstAndLastRegister();
        test.nimberOfWithoutSuchARegister();
        test.sumOfNothingAndOfAll();
        test.lessenIfTheSumIsZero();
        test.lessenTheFirstOfSeveral();
        test.lessenFirstAndLastRegister();
        test.lessenedAndNotRaised();
        test.checks.end();
    }

    private void dueRegisters(NimberField x, int... due) {
        for (int register = 0; register < 8; register++) {
            int nimber = register < due.length ? due[register] : 0;
            checks.due("register " + register, nimber, x.nimberOf(register));
        }
    }

    private void newObject() {
        checks.sentence("1: Creates registers with 0.");
        NimberField x = new NimberField();
        dueRegisters(x);
        checks.due("first set", 0, x.set(7, 1));
        checks.stateThrow("nothing is inverted", () -> new NimberField().invert(0));
    }

    private void newObjectsShareNothing() {
        checks.sentence("1: Creates registers with 0. (after another object was used)");
        String first = Portrait.of(new NimberField());
        NimberField used = Given.registers(1, 2, 3, 4, 5, 6, 7, 8);
        Given.type(used, "A=B*C");
        used.carryOut();
        used.takeSnapshot();
        used.productByTable(15, 15);
        checks.holds("a later object is as the first", first.equals(Portrait.of(new NimberField())));
        NimberField x = new NimberField();
        dueRegisters(x);
        checks.due("products", 0, x.products());
        checks.due("recordedStates", 0, x.recordedStates());
        checks.due("programError", 0, x.programError());
        checks.stateThrow("restoreSnapshot", x::restoreSnapshot);
        checks.due("clearProgram", 0, x.clearProgram());
        checks.due("the first object", Reference.times(2, 3), used.nimberOf(0));
    }

    // ---- 2

    private void setFirstAndLastRegister() {
        checks.sentence("2: register: 0 to 7");
        NimberField x = new NimberField();
        x.set(0, 11);
        dueRegisters(x, 11);
        x.set(7, 12);
        dueRegisters(x, 11, 0, 0, 0, 0, 0, 0, 12);
    }

    private void setLeastAndGreatestNimber() {
        checks.sentence("2: nimber: 0 to 65535");
        NimberField x = new NimberField();
        x.set(3, 65535);
        checks.due("nimberOf", 65535, x.nimberOf(3));
        x.set(3, 0);
        checks.due("nimberOf", 0, x.nimberOf(3));
    }

    private void setReturnsThePreviousNimber() {
        checks.sentence("2: Returns the previous nimber.");
        NimberField x = new NimberField();
        checks.due("0 at first", 0, x.set(4, 65535));
        checks.due("the greatest", 65535, x.set(4, 65535));
        checks.due("the same", 65535, x.set(4, 0));
        checks.due("0", 0, x.set(4, 1));
    }

    private void setWithoutSuchARegister() {
        checks.sentence("2: Throws IndexOutOfBoundsException if there is no such register");
        for (int no : NO_REGISTERS) {
            NimberField x = Given.registers(9);
            checks.indexThrow("set(" + no + ", 1)", () -> x.set(no, 1));
            dueRegisters(x, 9);
            checks.due("recordedStates", 1, x.recordedStates());
        }
    }

    private void setOutOfRange() {
        checks.sentence("2: Throws IllegalArgumentException if nimber is out of range");
        for (int no : NO_NIMBERS) {
            NimberField x = Given.registers(9);
            checks.argumentThrow("set(0, " + no + ")", () -> x.set(0, no));
            dueRegisters(x, 9);
            checks.due("recordedStates", 1, x.recordedStates());
        }
    }

    private void setWithBothWrong() {
        checks.sentence("If several exceptions apply to a call, the one that is listed first is thrown.");
        NimberField x = new NimberField();
        for (int noRegister : NO_REGISTERS) {
            for (int noNimber : NO_NIMBERS) {
                checks.indexThrow("set", () -> x.set(noRegister, noNimber));
            }
        }
    }

    // ---- 3

    private void invertFirstAndLastRegister() {
        checks.sentence("3: register: 0 to 7");
        NimberField x = Given.registers(2, 2, 2, 2, 2, 2, 2, 2);
        x.invert(0);
        x.invert(7);
        dueRegisters(x, 3, 2, 2, 2, 2, 2, 2, 3);
    }

    private void invertReturnsTheInverse() {
        checks.sentence("3: Returns the inverse.");
        checks.due("inverse of 1", 1, Given.registers(1).invert(0));
        NimberField x = Given.registers(65535);
        checks.due("inverse of 65535", 1280, x.invert(0));
        checks.due("and back", 65535, x.invert(0));
        checks.due("recordedStates", 3, x.recordedStates());
    }

    private void invertWithoutSuchARegister() {
        checks.sentence("3: Throws IndexOutOfBoundsException if there is no such register");
        NimberField x = Given.registers(1, 2, 3, 4, 5, 6, 7, 8);
        for (int no : NO_REGISTERS) {
            checks.indexThrow("invert(" + no + ")", () -> x.invert(no));
        }
        dueRegisters(x, 1, 2, 3, 4, 5, 6, 7, 8);
    }

    private void invertZero() {
        checks.sentence("3: Throws IllegalStateException if the nimber is 0");
        NimberField x = Given.registers(0, 5);
        checks.stateThrow("invert(0)", () -> x.invert(0));
        checks.stateThrow("invert(7)", () -> x.invert(7));
        dueRegisters(x, 0, 5);
        checks.due("recordedStates", 2, x.recordedStates());
        x.set(1, 0);
        checks.stateThrow("a register that became 0", () -> x.invert(1));
        x.set(1, 1);
        checks.due("a register that became 1", 1, x.invert(1));
    }

    // ---- 4

    private void rootInFirstAndLastRegister() {
        checks.sentence("4: register: 0 to 7");
        NimberField x = Given.registers(3, 3, 3, 3, 3, 3, 3, 3);
        x.takeRoot(0);
        x.takeRoot(7);
        dueRegisters(x, 2, 3, 3, 3, 3, 3, 3, 2);
    }

    private void rootOfLeastAndGreatest() {
        checks.sentence("4: Returns the root.");
        checks.due("root of 0", 0, new NimberField().takeRoot(7));
        checks.due("root of 1", 1, Given.registers(1).takeRoot(0));
        checks.due("root of 65535", 47281, Given.registers(65535).takeRoot(0));
        checks.due("root of 40111", 65535, Given.registers(40111).takeRoot(0));
        NimberField x = new NimberField();
        x.takeRoot(0);
        checks.due("the root of 0 is an action", 1, x.recordedStates());
    }

    private void rootWithoutSuchARegister() {
        checks.sentence("4: Throws IndexOutOfBoundsException if there is no such register");
        NimberField x = Given.registers(2, 2, 2, 2, 2, 2, 2, 2);
        for (int no : NO_REGISTERS) {
            checks.indexThrow("takeRoot(" + no + ")", () -> x.takeRoot(no));
        }
        dueRegisters(x, 2, 2, 2, 2, 2, 2, 2, 2);
    }

    // ---- 5

    private void multiplyFirstAndLastRegister() {
        checks.sentence("5: register: 0 to 7: its nimber is replaced by the product");
        NimberField x = Given.registers(2, 0, 0, 0, 0, 0, 0, 4);
        checks.due("multiply(0, 7)", 8, x.multiply(0, 7));
        dueRegisters(x, 8, 0, 0, 0, 0, 0, 0, 4);
        checks.due("multiply(7, 0)", 11, x.multiply(7, 0));
        dueRegisters(x, 8, 0, 0, 0, 0, 0, 0, 11);
    }

    private void multiplyByItself() {
        checks.sentence("5: other: 0 to 7 (the register itself)");
        checks.due("multiply(0, 0)", 40111, Given.registers(65535).multiply(0, 0));
        NimberField x = Given.registers(0, 0, 0, 0, 0, 0, 0, 256);
        checks.due("multiply(7, 7)", 384, x.multiply(7, 7));
        dueRegisters(x, 0, 0, 0, 0, 0, 0, 0, 384);
    }

    private void multiplyByLeastAndGreatest() {
        checks.sentence("5: Returns the product.");
        checks.due("by 0", 0, Given.registers(65535, 0).multiply(0, 1));
        checks.due("0 by it", 0, Given.registers(0, 65535).multiply(0, 1));
        checks.due("by 1", 65535, Given.registers(65535, 1).multiply(0, 1));
        checks.due("1 by it", 65535, Given.registers(1, 65535).multiply(0, 1));
        NimberField x = new NimberField();
        checks.due("0 by 0", 0, x.multiply(3, 4));
        checks.due("0 by 0 is a product", 1, x.products());
        checks.due("0 by 0 is an action", 1, x.recordedStates());
    }

    private void multiplyWithoutSuchARegister() {
        checks.sentence("5: Throws IndexOutOfBoundsException if there is no such register");
        NimberField x = Given.registers(2, 2, 2, 2, 2, 2, 2, 2);
        for (int no : NO_REGISTERS) {
            checks.indexThrow("multiply(" + no + ", 0)", () -> x.multiply(no, 0));
            checks.indexThrow("multiply(7, " + no + ")", () -> x.multiply(7, no));
            checks.indexThrow("multiply(" + no + ", " + no + ")", () -> x.multiply(no, no));
        }
        dueRegisters(x, 2, 2, 2, 2, 2, 2, 2, 2);
        checks.due("products", 0, x.products());
    }

    // ---- 6

    private void exchangeFirstAndLastRegister() {
        checks.sentence("6: Returns the nimber of the first one afterwards.");
        NimberField x = Given.registers(1, 2, 3, 4, 5, 6, 7, 65535);
        checks.due("exchange(0, 7)", 65535, x.exchange(0, 7));
        dueRegisters(x, 65535, 2, 3, 4, 5, 6, 7, 1);
        checks.due("exchange(7, 0)", 65535, x.exchange(7, 0));
        dueRegisters(x, 1, 2, 3, 4, 5, 6, 7, 65535);
        checks.due("exchange(0, 6)", 7, x.exchange(0, 6));
        dueRegisters(x, 7, 2, 3, 4, 5, 6, 1, 65535);
    }

    private void exchangeWithItself() {
        checks.sentence("6: Lets two registers change their nimbers. (the same one twice, or equal nimbers)");
        NimberField x = new NimberField();
        x.set(7, 65535);
        checks.due("exchange(7, 7)", 65535, x.exchange(7, 7));
        checks.due("exchange(0, 0)", 0, x.exchange(0, 0));
        dueRegisters(x, 0, 0, 0, 0, 0, 0, 0, 65535);
        checks.due("they are actions", 3, x.recordedStates());
        checks.due("two with 0", 0, x.exchange(1, 2));
        checks.due("this is an action", 4, x.recordedStates());
    }

    private void exchangeWithoutSuchARegister() {
        checks.sentence("6: Throws IndexOutOfBoundsException if there is no such register");
        NimberField x = Given.registers(1, 2, 3, 4, 5, 6, 7, 8);
        for (int no : NO_REGISTERS) {
            checks.indexThrow("exchange(" + no + ", 0)", () -> x.exchange(no, 0));
            checks.indexThrow("exchange(7, " + no + ")", () -> x.exchange(7, no));
            checks.indexThrow("exchange(" + no + ", " + no + ")", () -> x.exchange(no, no));
        }
        dueRegisters(x, 1, 2, 3, 4, 5, 6, 7, 8);
    }

    // ---- 15 to 17

    private void nimberOfFirstAndLastRegister() {
        checks.sentence("15: register: 0 to 7");
        NimberField x = Given.registers(65535, 2, 3, 4, 5, 6, 7, 8);
        checks.due("nimberOf(0)", 65535, x.nimberOf(0));
        checks.due("nimberOf(7)", 8, x.nimberOf(7));
        checks.due("nimberOf(7) of a new object", 0, new NimberField().nimberOf(7));
    }

    private void nimberOfWithoutSuchARegister() {
        checks.sentence("15: Throws IndexOutOfBoundsException if there is no such register");
        for (int no : NO_REGISTERS) {
            checks.indexThrow("nimberOf(" + no + ")", () -> new NimberField().nimberOf(no));
        }
    }

    private void sumOfNothingAndOfAll() {
        checks.sentence("16: Returns the sum of the nimbers of all registers.");
        int all = 65535;
        checks.due("all 0", 0, new NimberField().sumOfAll());
        checks.due("the first one alone", all, Given.registers(all).sumOfAll());
        checks.due("the last one alone", all, Given.registers(0, 0, 0, 0, 0, 0, 0, all).sumOfAll());
        checks.due("seven times 65535", all, Given.registers(all, all, all, all, all, all, all).sumOfAll());
        checks.due("eight times 65535", 0, Given.registers(all, all, all, all, all, all, all, all).sumOfAll());
        checks.due("a bit each", 255, Given.registers(1, 2, 4, 8, 16, 32, 64, 128).sumOfAll());
    }

    private void lessenIfTheSumIsZero() {
        checks.sentence("17: NONE if the sum is 0.");
        int none = NimberField.NONE;
        checks.due("all 0", none, new NimberField().registerToLessen());
        checks.due("two the same", none, Given.registers(0, 65535, 0, 65535).registerToLessen());
        checks.due("eight the same", none, Given.registers(5, 5, 5, 5, 5, 5, 5, 5).registerToLessen());
        checks.due("1 + 2 + 3", none, Given.registers(0, 0, 0, 0, 0, 1, 2, 3).registerToLessen());
    }

    private void lessenTheFirstOfSeveral() {
        checks.sentence("17: of several such registers the first one, 0 before 1, and so on");
        checks.due("three the same", 0, Given.registers(5, 5, 5).registerToLessen());
        checks.due("a greater one behind", 1, Given.registers(1, 4, 5, 7).registerToLessen());
        checks.due("the last three", 5, Given.registers(1, 2, 4, 8, 0, 16, 17, 31).registerToLessen());
    }

    private void lessenFirstAndLastRegister() {
        checks.sentence("17: Returns the register whose nimber has to be lessened so that the sum of all becomes 0");
        checks.due("the first one", 0, Given.registers(1).registerToLessen());
        checks.due("the last one", 7, Given.registers(0, 0, 0, 0, 0, 0, 0, 1).registerToLessen());
        checks.due("65535", 7, Given.registers(0, 0, 0, 0, 0, 0, 0, 65535).registerToLessen());
        checks.due("by 1 alone", 1, Given.registers(65534, 65535).registerToLessen());
    }

    private void lessenedAndNotRaised() {
        checks.sentence("17: has to be lessened");
        checks.due("32767 would have to be raised", 1, Given.registers(32767, 32768).registerToLessen());
        checks.due("the greatest of all would have to be raised", 2,
                Given.registers(65280, 65280 - 256, 256 + 3, 1).registerToLessen());
    }
}
