/** Objects in the state that a test begins with. */
final class Given {
    private Given() {
    }

    /** A new object in which register after register has been set. */
    static NimberField registers(int... nimbers) {
        NimberField x = new NimberField();
        for (int register = 0; register < nimbers.length; register++) {
            x.set(register, nimbers[register]);
        }
        return x;
    }

    static NimberField program(String program) {
        NimberField x = new NimberField();
        type(x, program);
        return x;
    }

    static void type(NimberField x, String program) {
        for (int index = 0; index < program.length(); index++) {
            x.type(program.charAt(index));
        }
    }

    static void retype(NimberField x, String program) {
        x.clearProgram();
        type(x, program);
    }
}
