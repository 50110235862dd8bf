import java.util.List;

/** A call of the face with one of its nimbers free, the others being fit for it. */
record NimberCall(String name, Way way) {
    interface Way {
        int call(NimberField x, int nimber);
    }

    /** All calls that take a nimber from 0 to 65535, by each place where they take it. */
    static final List<NimberCall> ALL = List.of(
            new NimberCall("set", (x, n) -> x.set(7, n)),
            new NimberCall("productByHalves, first", (x, n) -> x.productByHalves(n, 0)),
            new NimberCall("productByHalves, second", (x, n) -> x.productByHalves(65535, n)),
            new NimberCall("productByBits, first", (x, n) -> x.productByBits(n, 0)),
            new NimberCall("productByBits, second", (x, n) -> x.productByBits(65535, n)),
            new NimberCall("quotient, first", (x, n) -> x.quotient(n, 0)),
            new NimberCall("quotient, second", (x, n) -> x.quotient(0, n)),
            new NimberCall("power", (x, n) -> x.power(n, 0)),
            new NimberCall("rootOf", NimberField::rootOf),
            new NimberCall("fieldOf", NimberField::fieldOf),
            new NimberCall("orderByDivisors", NimberField::orderByDivisors),
            new NimberCall("traceOf", NimberField::traceOf),
            new NimberCall("solve", NimberField::solve));

    int of(NimberField x, int nimber) {
        return way.call(x, nimber);
    }
}
