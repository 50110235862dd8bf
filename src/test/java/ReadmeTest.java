/** What README.md shows and says of the use of the class. */
public final class ReadmeTest {
    private final Checks checks = new Checks("ReadmeTest");

    public static void main(String[] args) {
        ReadmeTest test = new ReadmeTest();
        test.example();
        test.kindsOfSteps();
        test.exceptions();
        test.checks.end();
    }

    private void example() {
        checks.sentence("the example");
        NimberField x = new NimberField();
        x.set(0, 5);
        x.invert(0);
        checks.due("A times 5", 1, x.productByHalves(x.nimberOf(0), 5));
        for (char c : "B=A*5;C=%B".toCharArray()) {
            x.type(c);
        }
        x.carryOut();
        checks.due("B", 1, x.nimberOf(1));
        checks.due("C", 1, x.nimberOf(2));
        x.undo();
        checks.due("B after undo", 0, x.nimberOf(1));
        checks.due("C after undo", 0, x.nimberOf(2));
        checks.due("3 times 5", 15, x.productByBits(3, 5));
    }

    private void kindsOfSteps() {
        checks.sentence("A step is a register, \"=\", and one of these");
        for (String rightSide : new String[] {"A", "12", "~A", "%A", "A+B", "A*B", "A/B", "A^B"}) {
            checks.due("C=" + rightSide, NimberField.NONE, Given.program("C=" + rightSide).programError());
        }
    }

    private void exceptions() {
        checks.sentence("A call with a wrong register throws IndexOutOfBoundsException, and so on");
        NimberField x = new NimberField();
        checks.indexThrow("a wrong register", () -> x.nimberOf(8));
        checks.argumentThrow("a number out of range", () -> x.rootOf(65536));
        checks.stateThrow("the inverse of 0", () -> x.invert(0));
        checks.stateThrow("nothing to undo", x::undo);
        checks.stateThrow("no snapshot", x::restoreSnapshot);
        checks.stateThrow("a program that is not valid", x::carryOut);
        checks.stateThrow("a program that traps", Given.program("A=~0")::carryOut);
        checks.stateThrow("a full program", () -> Given.program(" ".repeat(60)).type(' '));
    }
}
