/** The boundary cases that the section "Terms" names, sentence by sentence. */
public final class BoundaryTermsTest {
    private static final int[] FERMAT = {2, 4, 16, 256};
    private static final int[] FIELDS = {2, 4, 16, 256, 65536};
    private static final int[] EDGES = {0, 1, 2, 3, 4, 15, 16, 255, 256, 257, 32767, 32768, 65534, 65535};

    private final Checks checks = new Checks("BoundaryTermsTest");
    private final Fresh fresh = new Fresh();

    public static void main(String[] args) {
        BoundaryTermsTest test = new BoundaryTermsTest();
        test.calls512();
        test.nimbers();
        test.sums();
        test.productsWithOne();
        test.fermatPowersTimesLesserNumbers();
        test.squaresOfFermatPowers();
        test.inverses();
        test.division();
        test.roots();
        test.powers();
        test.orders();
        test.fields();
        test.traces();
        test.twoSolutions();
        test.registers();
        test.none();
        test.checks.end();
    }

    private int product(int a, int b) {
        int product = fresh.next().productByHalves(a, b);
        checks.due("productByBits(" + a + ", " + b + ")", product, fresh.next().productByBits(a, b));
        if (a < 16 && b < 16) {
            checks.due("productByTable(" + a + ", " + b + ")", product, fresh.next().productByTable(a, b));
        }
        return product;
    }

    private void dueProduct(int a, int b, int due) {
        checks.due(a + " times " + b, due, product(a, b));
        checks.due(b + " times " + a, due, product(b, a));
    }

    private void calls512() {
        checks.sentence("An object is used for at most 512 calls after it has been made");
        String program = "C=C*300;D=~C;E=%C;F=E/C;G=C^65535;H=C+H";
        NimberField carried = Given.program(program);
        carried.set(2, 1);
        int times = 511 - program.length() - 1;
        for (int time = 1; time <= times; time++) {
            carried.carryOut();
        }
        checks.due("the 512th call", Reference.power(300, times), carried.nimberOf(2));
        NimberField stepped = Given.program("A=A*3");
        stepped.set(0, 1);
        for (int call = 7; call <= 511; call++) {
            stepped.multiply(1, 1);
        }
        checks.due("the 512th call", 3, stepped.carryOut());
        NimberField undone = new NimberField();
        for (int call = 1; call <= 511; call++) {
            undone.set(call % 8, call);
        }
        checks.due("the 512th call", 3, undone.undo());
    }

    private void nimbers() {
        checks.sentence("A nimber is a number from 0 to 65535.");
        for (NimberCall call : NimberCall.ALL) {
            for (int nimber : new int[] {0, 1, 65534, 65535}) {
                call.of(fresh.next(), nimber);
                checks.holds(call.name() + " takes " + nimber, true);
            }
            for (int no : new int[] {-1, 65536, -65536, -65535, 65537, 131071, Integer.MIN_VALUE,
                Integer.MAX_VALUE}) {
                checks.argumentThrow(call.name() + " of " + no, () -> call.of(fresh.next(), no));
            }
        }
    }

    private int sum(int a, int b) {
        int due = Given.program("A=" + a + "+" + b).carryOut();
        checks.due("sumOfAll", due, Given.registers(0, a, 0, b).sumOfAll());
        return due;
    }

    private void sums() {
        checks.sentence("The sum of two nimbers is the number whose bits are 1 just where those of the two differ.");
        for (int nimber : EDGES) {
            checks.due(nimber + " + itself", 0, sum(nimber, nimber));
            checks.due(nimber + " + 0", nimber, sum(nimber, 0));
            checks.due("0 + " + nimber, nimber, sum(0, nimber));
            checks.due(nimber + " + 65535", 65535 - nimber, sum(nimber, 65535));
        }
        checks.due("no carry", 2, sum(1, 3));
        checks.due("no carry", 32769, sum(32768, 1));
        checks.due("no carry", 65280, sum(65535, 255));
    }

    private void productsWithOne() {
        checks.sentence("1 times a nimber is this nimber");
        for (int nimber : EDGES) {
            dueProduct(1, nimber, nimber);
        }
    }

    private void fermatPowersTimesLesserNumbers() {
        checks.sentence("a Fermat power times a lesser number is their ordinary product");
        for (int fermat : FERMAT) {
            dueProduct(fermat, 0, 0);
            dueProduct(fermat, 1, fermat);
            dueProduct(fermat, fermat / 2, fermat * (fermat / 2));
            dueProduct(fermat, fermat - 1, fermat * (fermat - 1));
        }
        dueProduct(256, 255, 65280);
        dueProduct(16, 15, 240);
    }

    private void squaresOfFermatPowers() {
        checks.sentence("the square of a Fermat power F is F + F / 2 in ordinary numbers");
        dueProduct(2, 2, 3);
        dueProduct(4, 4, 6);
        dueProduct(16, 16, 24);
        dueProduct(256, 256, 384);
        for (int fermat : FERMAT) {
            dueProduct(fermat, fermat + 1, fermat / 2);
            dueProduct(fermat + 1, fermat + 1, fermat + fermat / 2 ^ 1);
            checks.due("square of " + fermat, fermat + fermat / 2, fresh.next().power(fermat, 2));
        }
    }

    private void inverses() {
        checks.sentence("Each nimber but 0 has one inverse, which multiplied by it makes 1");
        for (int nimber : EDGES) {
            if (nimber == 0) {
                continue;
            }
            int inverse = Given.registers(nimber).invert(0);
            dueProduct(nimber, inverse, 1);
            checks.due("quotient(1, " + nimber + ")", inverse, fresh.next().quotient(1, nimber));
            checks.due("A=~" + nimber, inverse, Given.program("A=~" + nimber).carryOut());
        }
        checks.due("inverse of 1", 1, Given.registers(1).invert(0));
        checks.stateThrow("inverse of 0", () -> Given.registers(0).invert(0));
        checks.due("inverse of 0", NimberField.NONE, fresh.next().quotient(1, 0));
        checks.due("inverse of 0", 0, Given.program("A=~0").trappedStep());
    }

    private void division() {
        checks.sentence("to divide means to multiply by the inverse");
        for (int nimber : EDGES) {
            checks.due(nimber + " / 1", nimber, fresh.next().quotient(nimber, 1));
            checks.due(nimber + " / 65535", product(nimber, Given.registers(65535).invert(0)),
                    fresh.next().quotient(nimber, 65535));
            checks.due(nimber + " / 0", NimberField.NONE, fresh.next().quotient(nimber, 0));
        }
    }

    private void roots() {
        checks.sentence("Each nimber has one root, whose square it is.");
        for (int nimber : EDGES) {
            int root = fresh.next().rootOf(nimber);
            checks.due("square of the root of " + nimber, nimber, product(root, root));
            checks.due("takeRoot", root, Given.registers(nimber).takeRoot(0));
            checks.due("A=%" + nimber, root, Given.program("A=%" + nimber).carryOut());
        }
        checks.due("root of 0", 0, fresh.next().rootOf(0));
        checks.due("root of 1", 1, fresh.next().rootOf(1));
    }

    private void powers() {
        checks.sentence("A nimber to the power of a number from 0 on is the product of so many of it, 1 for 0.");
        for (int nimber : EDGES) {
            checks.due(nimber + " to the power of 0", 1, fresh.next().power(nimber, 0));
            checks.due(nimber + " to the power of 1", nimber, fresh.next().power(nimber, 1));
            checks.due(nimber + " to the power of 2", product(nimber, nimber), fresh.next().power(nimber, 2));
            checks.due("A=" + nimber + "^0", 1, Given.program("A=" + nimber + "^0").carryOut());
            checks.due("A=" + nimber + "^1", nimber, Given.program("A=" + nimber + "^1").carryOut());
            int once = nimber == 0 ? 0 : 1;
            checks.due(nimber + " to the power of 65535", once, fresh.next().power(nimber, 65535));
            checks.due(nimber + " to the power of 65536", nimber, fresh.next().power(nimber, 65536));
        }
    }

    private void orders() {
        checks.sentence("The order of a nimber but 0 is the least power above 0 that is 1.");
        checks.due("order of 1", 1, fresh.next().orderByPowers(1));
        checks.due("order of 1", 1, fresh.next().orderByDivisors(1));
        checks.due("order of 0", NimberField.NONE, fresh.next().orderByPowers(0));
        checks.due("order of 0", NimberField.NONE, fresh.next().orderByDivisors(0));
        for (int nimber : EDGES) {
            if (nimber > 0) {
                int order = fresh.next().orderByDivisors(nimber);
                checks.due("order of " + nimber, Reference.slowOrder(nimber), order);
                checks.due("power " + order, 1, fresh.next().power(nimber, order));
            }
        }
    }

    private void fields() {
        checks.sentence("The numbers below 2, 4, 16, 256 and 65536 are fields of their own");
        for (int end : FIELDS) {
            int step = end == 65536 ? 4369 : 1;
            for (int nimber = end - 1; nimber >= 0; nimber -= step) {
                checks.holds("root of " + nimber, fresh.next().rootOf(nimber) < end);
                checks.holds(nimber + " * " + (end - 1), fresh.next().productByHalves(nimber, end - 1) < end);
                checks.holds("sum", sum(nimber, end - 1) < end);
                if (nimber > 0) {
                    int inverse = fresh.next().quotient(1, nimber);
                    checks.holds("inverse of " + nimber, inverse > 0 && inverse < end);
                }
            }
        }
        for (int fermat : FERMAT) {
            checks.holds("just outside", fresh.next().productByHalves(fermat, 1) >= fermat);
            checks.holds("just outside", fresh.next().rootOf(fermat) >= fermat);
            checks.holds("just outside", fresh.next().quotient(1, fermat) >= fermat);
        }
    }

    private void traces() {
        checks.sentence("The trace of a nimber x is the sum of x, its square, .. 16 nimbers in all; it is 0 or 1.");
        checks.due("trace of 0", 0, fresh.next().traceOf(0));
        checks.due("trace of 1, 16 times 1", 0, fresh.next().traceOf(1));
        checks.due("trace of the greatest without the highest bit", 0, fresh.next().traceOf(32767));
        checks.due("trace of the highest bit", 1, fresh.next().traceOf(32768));
        checks.due("trace of 65535", 1, fresh.next().traceOf(65535));
        for (int nimber : FERMAT) {
            checks.due("trace of " + nimber, 0, fresh.next().traceOf(nimber));
        }
    }

    private void twoSolutions() {
        checks.sentence("There are nimbers y with y * y + y = x just if the trace of x is 0; "
                + "then there are two, of which one is 1 greater than the other.");
        for (int nimber : EDGES) {
            int least = fresh.next().solve(nimber);
            boolean any = fresh.next().traceOf(nimber) == 0;
            checks.holds(nimber + " has solutions if the trace is 0", any == (least != NimberField.NONE));
            if (any) {
                checks.due("the lesser one for " + nimber, nimber, product(least, least) ^ least);
                checks.due("the greater one for " + nimber, nimber, product(least + 1, least + 1) ^ least + 1);
                checks.due("the lesser one is even", 0, least % 2);
            }
        }
        checks.due("0 and 1 for 0", 0, fresh.next().solve(0));
        checks.due("2 and 3 for 1", 2, fresh.next().solve(1));
        checks.due("none for 65535", NimberField.NONE, fresh.next().solve(65535));
    }

    private void registers() {
        checks.sentence("There are 8 registers, 0 to 7, written \"A\" to \"H\", each with a nimber (0 at first).");
        NimberField x = new NimberField();
        for (int register = 0; register <= 7; register++) {
            checks.due("register " + register, 0, x.nimberOf(register));
            String name = String.valueOf((char) ('A' + register));
            NimberField y = Given.program(name + "=" + (register + 9));
            y.carryOut();
            checks.due(name, register + 9, y.nimberOf(register));
            checks.due(name + " alone", register + 9, y.sumOfAll());
            checks.due(name + " as an operand", 0, Given.program("A=" + name).carryOut());
        }
        checks.indexThrow("register -1", () -> x.nimberOf(-1));
        checks.indexThrow("register 8", () -> x.nimberOf(8));
        for (String no : new String[] {"@", "I", "a", "h"}) {
            checks.due(no + " is no target", 0, Given.program(no + "=1").programError());
            checks.due(no + " is no operand", 2, Given.program("A=" + no).programError());
        }
    }

    private void none() {
        checks.sentence("The constants: NONE = -1: There is no such result.");
        checks.due("NONE", -1, NimberField.NONE);
    }
}
