/** Hands out an object for one call after the other, and a new one before its 512 calls are used up. */
final class Fresh {
    private NimberField object = new NimberField();
    private int calls;

    NimberField next() {
        if (calls == 500) {
            object = new NimberField();
            calls = 0;
        }
        calls++;
        return object;
    }
}
