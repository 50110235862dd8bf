/** The boundary cases of promises 18 to 28, sentence by sentence. */
public final class BoundaryNumbersTest {
    private static final int NONE = NimberField.NONE;
    private static final int[] NO_NIMBERS = {-1, 65536, -65536, 65537, Integer.MIN_VALUE, Integer.MAX_VALUE};
    private static final int[] EDGES = {0, 1, 2, 3, 4, 15, 16, 255, 256, 32767, 32768, 65534, 65535};

    private final Checks checks = new Checks("BoundaryNumbersTest");
    private final Fresh fresh = new Fresh();

    public static void main(String[] args) {
        BoundaryNumbersTest test = new BoundaryNumbersTest();
        test.productsOfLeastAndGreatest();
        test.productsOutOfRange();
        test.partedByFermatPowers();
        test.eachBitWithEachBit();
        test.tableFirstAndLastCell();
        test.tableOutOfRange();
        test.quotientsOfLeastAndGreatest();
        test.quotientByZero();
        test.quotientOutOfRange();
        test.powersWithLeastAndGreatestExponent();
        test.powerOutOfRange();
        test.rootsOfLeastAndGreatest();
        test.rootOutOfRange();
        test.fieldsAtTheirEnds();
        test.fieldOutOfRange();
        test.ordersByPowers();
        test.orderByPowersOutOfRange();
        test.ordersByDivisors();
        test.orderByDivisorsOutOfRange();
        test.traceLeastAndGreatest();
        test.traceOutOfRange();
        test.solutionsLeastAndGreatest();
        test.solutionNone();
        test.solveOutOfRange();
        test.checks.end();
    }

    // ---- 18 to 20

    private void dueProducts(int a, int b, int due) {
        checks.due("productByHalves(" + a + ", " + b + ")", due, fresh.next().productByHalves(a, b));
        checks.due("productByHalves(" + b + ", " + a + ")", due, fresh.next().productByHalves(b, a));
        checks.due("productByBits(" + a + ", " + b + ")", due, fresh.next().productByBits(a, b));
        checks.due("productByBits(" + b + ", " + a + ")", due, fresh.next().productByBits(b, a));
    }

    private void productsOfLeastAndGreatest() {
        checks.sentence("18, 19: nimber: 0 to 65535, other: 0 to 65535");
        dueProducts(0, 0, 0);
        dueProducts(0, 1, 0);
        dueProducts(0, 65535, 0);
        dueProducts(1, 65535, 65535);
        dueProducts(65535, 65535, 40111);
        dueProducts(65535, 65534, 40111 ^ 65535);
        dueProducts(65535, 2, Reference.slowTimes(65535, 2));
        for (int a : EDGES) {
            for (int b : EDGES) {
                dueProducts(a, b, Reference.slowTimes(a, b));
            }
        }
    }

    private void productsOutOfRange() {
        checks.sentence("18, 19: Throws IllegalArgumentException if an argument is out of range");
        NimberField x = new NimberField();
        for (int no : NO_NIMBERS) {
            for (int other : new int[] {0, 1, 65535, no}) {
                checks.argumentThrow("productByHalves(" + no + ", " + other + ")", () -> x.productByHalves(no, other));
                checks.argumentThrow("productByHalves(" + other + ", " + no + ")", () -> x.productByHalves(other, no));
                checks.argumentThrow("productByBits(" + no + ", " + other + ")", () -> x.productByBits(no, other));
                checks.argumentThrow("productByBits(" + other + ", " + no + ")", () -> x.productByBits(other, no));
            }
        }
    }

    private void partedByFermatPowers() {
        checks.sentence("18: each is parted into a multiple of a Fermat power and a lesser number, and so on");
        for (int fermat : new int[] {2, 4, 16, 256}) {
            int highest = fermat * fermat - 1;
            int lowOnly = fermat - 1;
            int highOnly = highest - lowOnly;
            dueProducts(lowOnly, fermat, lowOnly * fermat);
            dueProducts(lowOnly, lowOnly, Reference.slowTimes(lowOnly, lowOnly));
            dueProducts(highOnly, highOnly, Reference.slowTimes(highOnly, highOnly));
            dueProducts(highOnly, lowOnly, Reference.slowTimes(highOnly, lowOnly));
            dueProducts(highest, highest, Reference.slowTimes(highest, highest));
            dueProducts(highest, fermat, Reference.slowTimes(highest, fermat));
        }
    }

    private void eachBitWithEachBit() {
        checks.sentence("19: the sum of the products of each bit of the one with each bit of the other");
        for (int i = 0; i < 16; i++) {
            int sum = 0;
            for (int j = 0; j < 16; j++) {
                int product = Reference.slowTimes(1 << i, 1 << j);
                dueProducts(1 << i, 1 << j, product);
                sum ^= product;
            }
            dueProducts(1 << i, 65535, sum);
        }
    }

    private void tableFirstAndLastCell() {
        checks.sentence("20: nimber: 0 to 15, other: 0 to 15");
        int[] corners = {0, 1, 14, 15};
        for (int a : corners) {
            for (int b : corners) {
                checks.due("the first call is productByTable(" + a + ", " + b + ")", Reference.slowTimes(a, b),
                        new NimberField().productByTable(a, b));
            }
        }
        NimberField x = new NimberField();
        checks.due("the last cell", 9, x.productByTable(15, 15));
        checks.due("the last row", 0, x.productByTable(15, 0));
        checks.due("the last column", 0, x.productByTable(0, 15));
        checks.due("the first cell", 0, x.productByTable(0, 0));
        checks.due("the last cell again", 9, x.productByTable(15, 15));
    }

    private void tableOutOfRange() {
        checks.sentence("20: Throws IllegalArgumentException if an argument is out of range");
        NimberField x = new NimberField();
        for (int no : new int[] {-1, 16, 17, 255, 256, 65535, 65536, Integer.MIN_VALUE, Integer.MAX_VALUE}) {
            checks.argumentThrow("productByTable(" + no + ", 0)", () -> x.productByTable(no, 0));
            checks.argumentThrow("productByTable(15, " + no + ")", () -> x.productByTable(15, no));
            checks.argumentThrow("productByTable(" + no + ", " + no + ")", () -> x.productByTable(no, no));
        }
    }

    // ---- 21, 22

    private void quotientsOfLeastAndGreatest() {
        checks.sentence("21: nimber: 0 to 65535, other: 0 to 65535");
        checks.due("0 / 1", 0, fresh.next().quotient(0, 1));
        checks.due("0 / 65535", 0, fresh.next().quotient(0, 65535));
        checks.due("65535 / 1", 65535, fresh.next().quotient(65535, 1));
        checks.due("65535 / 65535", 1, fresh.next().quotient(65535, 65535));
        checks.due("1 / 65535", 1280, fresh.next().quotient(1, 65535));
        for (int a : EDGES) {
            for (int b : EDGES) {
                int quotient = fresh.next().quotient(a, b);
                checks.due(a + " / " + b, b == 0 ? NONE : a, b == 0 ? quotient : Reference.slowTimes(quotient, b));
            }
        }
    }

    private void quotientByZero() {
        checks.sentence("21: NONE if other is 0.");
        for (int nimber : EDGES) {
            checks.due(nimber + " / 0", NONE, fresh.next().quotient(nimber, 0));
        }
    }

    private void quotientOutOfRange() {
        checks.sentence("21: Throws IllegalArgumentException if an argument is out of range");
        NimberField x = new NimberField();
        for (int no : NO_NIMBERS) {
            checks.argumentThrow("quotient(" + no + ", 1)", () -> x.quotient(no, 1));
            checks.argumentThrow("quotient(" + no + ", 0)", () -> x.quotient(no, 0));
            checks.argumentThrow("quotient(0, " + no + ")", () -> x.quotient(0, no));
            checks.argumentThrow("quotient(" + no + ", " + no + ")", () -> x.quotient(no, no));
        }
    }

    private void powersWithLeastAndGreatestExponent() {
        checks.sentence("22: nimber: 0 to 65535, exponent: 0 to 1000000000");
        for (int nimber : EDGES) {
            checks.due(nimber + " ^ 0", 1, fresh.next().power(nimber, 0));
            checks.due(nimber + " ^ 1", nimber, fresh.next().power(nimber, 1));
            checks.due(nimber + " ^ 2", Reference.slowTimes(nimber, nimber), fresh.next().power(nimber, 2));
            for (int exponent : new int[] {65534, 65535, 65536, 999999999, 1000000000}) {
                checks.due(nimber + " ^ " + exponent, Reference.power(nimber, exponent),
                        fresh.next().power(nimber, exponent));
            }
        }
        checks.due("0 ^ 1000000000", 0, fresh.next().power(0, 1000000000));
        checks.due("2 ^ 1000000000", 2, fresh.next().power(2, 1000000000));
        checks.due("2 ^ 999999999", 1, fresh.next().power(2, 999999999));
    }

    private void powerOutOfRange() {
        checks.sentence("22: Throws IllegalArgumentException if an argument is out of range");
        NimberField x = new NimberField();
        for (int no : NO_NIMBERS) {
            checks.argumentThrow("power(" + no + ", 0)", () -> x.power(no, 0));
            checks.argumentThrow("power(" + no + ", -1)", () -> x.power(no, -1));
            checks.argumentThrow("power(" + no + ", 1000000000)", () -> x.power(no, 1000000000));
        }
        for (int no : new int[] {-1, 1000000001, -1000000000, Integer.MIN_VALUE, Integer.MAX_VALUE}) {
            for (int nimber : EDGES) {
                checks.argumentThrow("power(" + nimber + ", " + no + ")", () -> x.power(nimber, no));
            }
        }
    }

    // ---- 23, 24

    private void rootsOfLeastAndGreatest() {
        checks.sentence("23: nimber: 0 to 65535");
        checks.due("root of 0", 0, fresh.next().rootOf(0));
        checks.due("root of 1", 1, fresh.next().rootOf(1));
        checks.due("root of 65535", 47281, fresh.next().rootOf(65535));
        for (int nimber : EDGES) {
            int root = fresh.next().rootOf(nimber);
            checks.due("square of the root of " + nimber, nimber, Reference.slowTimes(root, root));
        }
    }

    private void rootOutOfRange() {
        checks.sentence("23: Throws IllegalArgumentException if nimber is out of range");
        for (int no : NO_NIMBERS) {
            checks.argumentThrow("rootOf(" + no + ")", () -> fresh.next().rootOf(no));
        }
    }

    private void fieldsAtTheirEnds() {
        checks.sentence("24: Returns 1, 2, 4, 8 or 16.");
        int[][] ends = {{0, 1, 1}, {2, 3, 2}, {4, 15, 4}, {16, 255, 8}, {256, 65535, 16}};
        for (int[] field : ends) {
            checks.due("fieldOf(" + field[0] + ")", field[2], fresh.next().fieldOf(field[0]));
            checks.due("fieldOf(" + field[1] + ")", field[2], fresh.next().fieldOf(field[1]));
        }
    }

    private void fieldOutOfRange() {
        checks.sentence("24: Throws IllegalArgumentException if nimber is out of range");
        for (int no : NO_NIMBERS) {
            checks.argumentThrow("fieldOf(" + no + ")", () -> fresh.next().fieldOf(no));
        }
    }

    // ---- 25, 26

    private void ordersByPowers() {
        checks.sentence("25: nimber: 0 to 255. Returns the order; NONE for 0.");
        checks.due("order of 0", NONE, fresh.next().orderByPowers(0));
        checks.due("order of 1", 1, fresh.next().orderByPowers(1));
        checks.due("order of 2", 3, fresh.next().orderByPowers(2));
        checks.due("order of 3", 3, fresh.next().orderByPowers(3));
        checks.due("order of 254", Reference.slowOrder(254), fresh.next().orderByPowers(254));
        checks.due("order of 255", Reference.slowOrder(255), fresh.next().orderByPowers(255));
        int greatest = 0;
        for (int nimber = 1; nimber < 256; nimber++) {
            greatest = Math.max(greatest, fresh.next().orderByPowers(nimber));
        }
        checks.due("the greatest order", 255, greatest);
    }

    private void orderByPowersOutOfRange() {
        checks.sentence("25: Throws IllegalArgumentException if nimber is out of range");
        for (int no : new int[] {-1, 256, 257, 65535, 65536, Integer.MIN_VALUE, Integer.MAX_VALUE}) {
            checks.argumentThrow("orderByPowers(" + no + ")", () -> fresh.next().orderByPowers(no));
        }
    }

    private void ordersByDivisors() {
        checks.sentence("26: nimber: 0 to 65535. Returns the order; NONE for 0.");
        checks.due("order of 0", NONE, fresh.next().orderByDivisors(0));
        for (int nimber : EDGES) {
            if (nimber > 0) {
                checks.due("order of " + nimber, Reference.slowOrder(nimber), fresh.next().orderByDivisors(nimber));
            }
        }
        int generator = Reference.generator();
        for (int divisor = 1; divisor <= 65535; divisor++) {
            if (65535 % divisor == 0) {
                int nimber = Reference.power(generator, 65535 / divisor);
                checks.due("order of " + nimber, divisor, fresh.next().orderByDivisors(nimber));
            }
        }
    }

    private void orderByDivisorsOutOfRange() {
        checks.sentence("26: Throws IllegalArgumentException if nimber is out of range");
        for (int no : NO_NIMBERS) {
            checks.argumentThrow("orderByDivisors(" + no + ")", () -> fresh.next().orderByDivisors(no));
        }
    }

    // ---- 27, 28

    private void traceLeastAndGreatest() {
        checks.sentence("27: nimber: 0 to 65535. Returns 0 or 1.");
        checks.due("traceOf(0)", 0, fresh.next().traceOf(0));
        checks.due("traceOf(1)", 0, fresh.next().traceOf(1));
        checks.due("traceOf(32767)", 0, fresh.next().traceOf(32767));
        checks.due("traceOf(32768)", 1, fresh.next().traceOf(32768));
        checks.due("traceOf(65535)", 1, fresh.next().traceOf(65535));
    }

    private void traceOutOfRange() {
        checks.sentence("27: Throws IllegalArgumentException if nimber is out of range");
        for (int no : NO_NIMBERS) {
            checks.argumentThrow("traceOf(" + no + ")", () -> fresh.next().traceOf(no));
        }
    }

    private void solutionsLeastAndGreatest() {
        checks.sentence("28: nimber: 0 to 65535. Returns y");
        checks.due("solve(0)", 0, fresh.next().solve(0));
        checks.due("solve(1)", 2, fresh.next().solve(1));
        for (int nimber = 0; nimber < 32768; nimber += 7) {
            dueSolution(nimber);
        }
        dueSolution(32767);
        int ofTheGreatest = Reference.slowTimes(65534, 65534) ^ 65534;
        checks.due("the greatest answer", 65534, fresh.next().solve(ofTheGreatest));
    }

    private void dueSolution(int nimber) {
        int y = fresh.next().solve(nimber);
        checks.due("the lesser solution for " + nimber, 0, y % 2);
        checks.due("y * y + y", nimber, Reference.slowTimes(y, y) ^ y);
    }

    private void solutionNone() {
        checks.sentence("28: NONE if there is none.");
        for (int nimber : new int[] {32768, 32769, 49152, 65534, 65535}) {
            checks.due("solve(" + nimber + ")", NONE, fresh.next().solve(nimber));
        }
    }

    private void solveOutOfRange() {
        checks.sentence("28: Throws IllegalArgumentException if nimber is out of range");
        for (int no : NO_NIMBERS) {
            checks.argumentThrow("solve(" + no + ")", () -> fresh.next().solve(no));
        }
    }
}
