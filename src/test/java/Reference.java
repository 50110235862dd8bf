/** Nimber arithmetic for the tests, reckoned in another way than in the class. */
final class Reference {
    static final int COUNT = 65536;

    /** squares[n] is the square of n; roots[n] has the square n. */
    private static final int[] SQUARES = new int[COUNT];
    private static final int[] ROOTS = new int[COUNT];
    private static final int[] LOGARITHMS = new int[COUNT];
    private static final int[] POWERS = new int[COUNT - 1];

    static {
        for (int n = 0; n < COUNT; n++) {
            SQUARES[n] = slowTimes(n, n);
            ROOTS[SQUARES[n]] = n;
        }
        fillPowers(generator());
    }

    private Reference() {
    }

    static int times(int a, int b) {
        return a == 0 || b == 0 ? 0 : POWERS[(LOGARITHMS[a] + LOGARITHMS[b]) % (COUNT - 1)];
    }

    static int inverse(int a) {
        return POWERS[(COUNT - 1 - LOGARITHMS[a]) % (COUNT - 1)];
    }

    static int power(int a, int exponent) {
        if (exponent == 0 || a == 0) {
            return exponent == 0 ? 1 : 0;
        }
        return POWERS[(int) ((long) LOGARITHMS[a] * exponent % (COUNT - 1))];
    }

    static int root(int a) {
        return ROOTS[a];
    }

    static int square(int a) {
        return SQUARES[a];
    }

    /** The product by the Fermat powers that each bit of b consists of. */
    static int slowTimes(int a, int b) {
        int sum = 0;
        for (int bit = 0; bit < 16; bit++) {
            if ((b >> bit & 1) == 1) {
                sum ^= timesBit(a, bit);
            }
        }
        return sum;
    }

    private static int timesBit(int a, int bit) {
        int product = a;
        for (int fermat = 8; fermat >= 1; fermat /= 2) {
            if ((bit & fermat) != 0) {
                product = timesFermat(product, fermat);
            }
        }
        return product;
    }

    /** Each bit of a either lacks the Fermat power 2^fermat, or has it once: then it is squared. */
    private static int timesFermat(int a, int fermat) {
        int sum = 0;
        for (int bit = 0; bit < 16; bit++) {
            if ((a >> bit & 1) == 0) {
                continue;
            }
            if ((bit & fermat) == 0) {
                sum ^= 1 << bit + fermat;
            } else {
                sum ^= 1 << bit ^ timesBit(1 << bit - fermat, fermat - 1);
            }
        }
        return sum;
    }

    /** A nimber whose powers are all nimbers but 0. */
    static int generator() {
        for (int n = 2; n < COUNT; n++) {
            if (slowOrder(n) == COUNT - 1) {
                return n;
            }
        }
        throw new IllegalStateException("the nimbers but 0 are no cycle");
    }

    static int slowOrder(int n) {
        int reached = n;
        int order = 1;
        while (reached != 1 && order < COUNT) {
            reached = slowTimes(reached, n);
            order++;
        }
        return order;
    }

    private static void fillPowers(int generator) {
        int reached = 1;
        for (int exponent = 0; exponent < COUNT - 1; exponent++) {
            POWERS[exponent] = reached;
            LOGARITHMS[reached] = exponent;
            reached = slowTimes(reached, generator);
        }
    }
}
