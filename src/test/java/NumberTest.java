/** Promises 18 to 28: the calls that answer about nimbers without the registers. */
public final class NumberTest {
    private static final int[] FERMAT = {2, 4, 16, 256};
    private static final int[] WRONG = {-1, 65536, Integer.MIN_VALUE, Integer.MAX_VALUE};

    private final Checks checks = new Checks("NumberTest");
    private final Fresh fresh = new Fresh();
    private int seed = 20;

    public static void main(String[] args) {
        NumberTest test = new NumberTest();
        test.fermatPowers();
        test.productsKeepTheRules();
        test.smallProductsByLeastNumbers();
        test.wrongProducts();
        test.quotients();
        test.powers();
        test.roots();
        test.fields();
        test.orders();
        test.tracesAndSolutions();
        test.wrongSingles();
        test.nothingChanges();
        test.checks.end();
    }

    /** A repeatable choice, spread over the numbers below the limit. */
    private int choose(int limit) {
        seed = seed * 1103515245 + 12345;
        return (seed >>> 8) % limit;
    }

    private void dueProduct(int a, int b, int due) {
        checks.due("productByHalves(" + a + ", " + b + ")", due, fresh.next().productByHalves(a, b));
        checks.due("productByBits(" + a + ", " + b + ")", due, fresh.next().productByBits(a, b));
        if (a < 16 && b < 16) {
            checks.due("productByTable(" + a + ", " + b + ")", due, fresh.next().productByTable(a, b));
        }
    }

    private void fermatPowers() {
        for (int fermat : FERMAT) {
            dueProduct(fermat, fermat, fermat + fermat / 2);
            for (int lesser = 0; lesser < fermat; lesser++) {
                dueProduct(fermat, lesser, fermat * lesser);
                dueProduct(lesser, fermat, fermat * lesser);
            }
        }
        for (int n = 0; n < 65536; n += 97) {
            dueProduct(1, n, n);
            dueProduct(n, 1, n);
            dueProduct(0, n, 0);
            dueProduct(n, 0, 0);
        }
        dueProduct(65535, 1, 65535);
        dueProduct(65535, 65535, 40111);
        dueProduct(32768, 256, 32990);
    }

    private void productsKeepTheRules() {
        for (int time = 0; time < 20000; time++) {
            int a = choose(65536);
            int b = choose(65536);
            int c = choose(65536);
            dueProduct(a, b, Reference.times(a, b));
            int sumTimesC = fresh.next().productByHalves(a ^ b, c);
            checks.due("a c + b c", sumTimesC,
                    fresh.next().productByBits(a, c) ^ fresh.next().productByBits(b, c));
            checks.due("(a b) c = a (b c)",
                    fresh.next().productByHalves(fresh.next().productByHalves(a, b), c),
                    fresh.next().productByBits(a, fresh.next().productByBits(b, c)));
        }
    }

    /** The table that promise 20 tells, reckoned here for more numbers, for all three products. */
    private void smallProductsByLeastNumbers() {
        int size = 40;
        int[][] least = new int[size][size];
        for (int a = 0; a < size; a++) {
            for (int b = 0; b < size; b++) {
                boolean[] seen = new boolean[256];
                for (int c = 0; c < a; c++) {
                    for (int d = 0; d < b; d++) {
                        seen[least[c][b] ^ least[a][d] ^ least[c][d]] = true;
                    }
                }
                while (seen[least[a][b]]) {
                    least[a][b]++;
                }
                dueProduct(a, b, least[a][b]);
            }
        }
        // The rows are asked for from the last on, and each on a new object too.
        for (int a = 15; a >= 0; a--) {
            checks.due("productByTable", least[a][15 - a], new NimberField().productByTable(a, 15 - a));
            checks.due("productByTable", least[a][13], fresh.next().productByTable(a, 13));
        }
    }

    private void wrongProducts() {
        NimberField x = new NimberField();
        for (int wrong : WRONG) {
            checks.argumentThrow("productByHalves", () -> x.productByHalves(wrong, 1));
            checks.argumentThrow("productByHalves", () -> x.productByHalves(1, wrong));
            checks.argumentThrow("productByBits", () -> x.productByBits(wrong, 0));
            checks.argumentThrow("productByBits", () -> x.productByBits(0, wrong));
            checks.argumentThrow("productByTable", () -> x.productByTable(wrong, 0));
            checks.argumentThrow("productByTable", () -> x.productByTable(0, wrong));
            checks.argumentThrow("quotient", () -> x.quotient(wrong, 0));
            checks.argumentThrow("quotient", () -> x.quotient(5, wrong));
            checks.argumentThrow("power", () -> x.power(wrong, 0));
        }
        checks.argumentThrow("productByTable(16, 0)", () -> x.productByTable(16, 0));
        checks.argumentThrow("productByTable(0, 16)", () -> x.productByTable(0, 16));
        checks.argumentThrow("power(1, -1)", () -> x.power(1, -1));
        checks.argumentThrow("power(0, 1000000001)", () -> x.power(0, 1000000001));
        checks.argumentThrow("power(1, least)", () -> x.power(1, Integer.MIN_VALUE));
        checks.argumentThrow("power(1, greatest)", () -> x.power(1, Integer.MAX_VALUE));
    }

    private void quotients() {
        checks.due("quotient(1, 2)", 3, fresh.next().quotient(1, 2));
        checks.due("quotient(6, 4)", 4, fresh.next().quotient(6, 4));
        checks.due("quotient(5, 0)", NimberField.NONE, fresh.next().quotient(5, 0));
        checks.due("quotient(0, 0)", NimberField.NONE, fresh.next().quotient(0, 0));
        checks.due("quotient(0, 5)", 0, fresh.next().quotient(0, 5));
        checks.due("quotient(65535, 65535)", 1, fresh.next().quotient(65535, 65535));
        for (int n = 1; n < 65536; n++) {
            int inverse = fresh.next().quotient(1, n);
            checks.due(n + " times its inverse", 1, Reference.times(n, inverse));
            int other = choose(65536);
            checks.due("quotient(" + other + ", " + n + ")", Reference.times(other, inverse),
                    fresh.next().quotient(other, n));
        }
    }

    private void powers() {
        checks.due("power(0, 0)", 1, fresh.next().power(0, 0));
        checks.due("power(0, 1)", 0, fresh.next().power(0, 1));
        checks.due("power(0, 1000000000)", 0, fresh.next().power(0, 1000000000));
        checks.due("power(1, 1000000000)", 1, fresh.next().power(1, 1000000000));
        checks.due("power(65535, 0)", 1, fresh.next().power(65535, 0));
        checks.due("power(7, 1000000000)", 2, fresh.next().power(7, 1000000000));
        for (int nimber = 0; nimber < 65536; nimber += 211) {
            int product = 1;
            for (int exponent = 0; exponent < 70; exponent++) {
                checks.due("power(" + nimber + ", " + exponent + ")", product,
                        fresh.next().power(nimber, exponent));
                product = Reference.times(product, nimber);
            }
        }
        for (int time = 0; time < 20000; time++) {
            int nimber = choose(65536);
            int exponent = choose(10000) * 100000 + choose(100000);
            checks.due("power(" + nimber + ", " + exponent + ")", Reference.power(nimber, exponent),
                    fresh.next().power(nimber, exponent));
        }
    }

    private void roots() {
        for (int n = 0; n < 65536; n++) {
            checks.due("rootOf(" + n + ")", Reference.root(n), fresh.next().rootOf(n));
        }
    }

    private void fields() {
        for (int n = 0; n < 65536; n++) {
            int due = n < 2 ? 1 : n < 4 ? 2 : n < 16 ? 4 : n < 256 ? 8 : 16;
            checks.due("fieldOf(" + n + ")", due, fresh.next().fieldOf(n));
        }
    }

    private void orders() {
        checks.due("orderByPowers(0)", NimberField.NONE, fresh.next().orderByPowers(0));
        checks.due("orderByDivisors(0)", NimberField.NONE, fresh.next().orderByDivisors(0));
        for (int n = 1; n < 65536; n++) {
            int due = 65535 / greatestDivisor(n);
            checks.due("orderByDivisors(" + n + ")", due, fresh.next().orderByDivisors(n));
            if (n < 256) {
                checks.due("order of " + n, Reference.slowOrder(n), due);
                checks.due("orderByPowers(" + n + ")", due, fresh.next().orderByPowers(n));
            }
        }
    }

    /** The greatest divisor of 65535 by which the power 65535 of n may be divided to stay 1. */
    private static int greatestDivisor(int n) {
        for (int power = 1; power <= 65535; power++) {
            if (65535 % power == 0 && Reference.power(n, power) == 1) {
                return 65535 / power;
            }
        }
        throw new IllegalStateException("65535 is no order's multiple");
    }

    private void tracesAndSolutions() {
        int[] solutions = new int[65536];
        java.util.Arrays.fill(solutions, NimberField.NONE);
        for (int y = 65535; y >= 0; y--) {
            solutions[Reference.square(y) ^ y] = y;
        }
        for (int n = 0; n < 65536; n++) {
            int trace = 0;
            int square = n;
            for (int time = 0; time < 16; time++) {
                trace ^= square;
                square = Reference.square(square);
            }
            checks.due("traceOf(" + n + ")", trace, fresh.next().traceOf(n));
            checks.due("solve(" + n + ")", solutions[n], fresh.next().solve(n));
            checks.holds("a solution just with trace 0", trace == 0 == (solutions[n] >= 0));
        }
    }

    private void wrongSingles() {
        NimberField x = new NimberField();
        for (int wrong : WRONG) {
            checks.argumentThrow("rootOf", () -> x.rootOf(wrong));
            checks.argumentThrow("fieldOf", () -> x.fieldOf(wrong));
            checks.argumentThrow("orderByPowers", () -> x.orderByPowers(wrong));
            checks.argumentThrow("orderByDivisors", () -> x.orderByDivisors(wrong));
            checks.argumentThrow("traceOf", () -> x.traceOf(wrong));
            checks.argumentThrow("solve", () -> x.solve(wrong));
        }
        checks.argumentThrow("orderByPowers(256)", () -> x.orderByPowers(256));
        checks.argumentThrow("orderByPowers(65535)", () -> x.orderByPowers(65535));
    }

    private void nothingChanges() {
        NimberField x = new NimberField();
        x.set(3, 77);
        x.productByHalves(5, 6);
        x.productByBits(5, 6);
        x.productByTable(5, 6);
        x.power(5, 6);
        x.solve(5);
        checks.due("products()", 0, x.products());
        checks.due("recordedStates()", 1, x.recordedStates());
        checks.due("sumOfAll()", 77, x.sumOfAll());
    }
}
