/** Promises 7 to 11 and 29: programs, their errors, their traps and their steps. */
public final class ProgramTest {
    private final Checks checks = new Checks("ProgramTest");

    public static void main(String[] args) {
        ProgramTest test = new ProgramTest();
        test.typing();
        test.validPrograms();
        test.errors();
        test.numbers();
        test.everyCharacterEverywhere();
        test.longPrograms();
        test.traps();
        test.carryingOut();
        test.eachKindOfStep();
        test.countingProducts();
        test.carryOutIsOneAction();
        test.notCarriedOut();
        test.checks.end();
    }

    private void dueError(String program, int due) {
        NimberField x = Given.program(program);
        checks.due("programError of " + program, due, x.programError());
        checks.due("programError again of " + program, due, x.programError());
        if (due != NimberField.NONE) {
            checks.stateThrow("trappedStep of " + program, x::trappedStep);
            checks.stateThrow("carryOut of " + program, x::carryOut);
        }
        checks.due("length of " + program, program.length(), x.clearProgram());
        checks.due("programError of the empty program", 0, x.programError());
    }

    private void typing() {
        NimberField x = new NimberField();
        for (int length = 1; length <= 60; length++) {
            checks.due("type", length, x.type((char) (length * 1091)));
        }
        checks.stateThrow("type", () -> x.type('A'));
        checks.stateThrow("type", () -> x.type(';'));
        checks.due("clearProgram", 60, x.clearProgram());
        checks.due("clearProgram", 0, x.clearProgram());
        checks.due("type", 1, x.type('A'));
        checks.due("programError", 1, x.programError());
        checks.due("recordedStates", 0, x.recordedStates());
    }

    private void validPrograms() {
        String[] programs = {"A=0", "H=H", "B=65535", "A=~0", "A=~H", "C=%G", "C=%12", "A=A+B", "A=1+2",
            "A=B*65535", "D=0/0", "E=F^9", "A=1;B=2;C=~D;D=%E;E=F+G;F=0*0", "A=10+10"};
        for (String program : programs) {
            dueError(program, NimberField.NONE);
        }
    }

    private void errors() {
        dueError("", 0);
        dueError("A", 1);
        dueError("A=", 2);
        dueError("A=1;", 4);
        dueError("A=1;B", 5);
        dueError("A=1+", 4);
        dueError("A=B/", 4);
        dueError("A=~", 3);
        dueError("A=%", 3);
        dueError("I=1", 0);
        dueError("@=1", 0);
        dueError("a=1", 0);
        dueError("1=A", 0);
        dueError(";A=1", 0);
        dueError("A==1", 2);
        dueError("AB=1", 1);
        dueError("A=I", 2);
        dueError("A=@", 2);
        dueError("A=+1", 2);
        dueError("A=;", 2);
        dueError("A=~~B", 3);
        dueError("A=~%B", 3);
        dueError("A=~B+1", 4);
        dueError("A=%12*3", 5);
        dueError("A=B-1", 3);
        dueError("A=B%C", 3);
        dueError("A=B~C", 3);
        dueError("A=1=2", 3);
        dueError("A=BC", 3);
        dueError("A=B1", 3);
        dueError("A=1B", 3);
        dueError("A=1+~B", 4);
        dueError("A=1++2", 4);
        dueError("A=B*C*D", 5);
        dueError("A=B^2^2", 5);
        dueError("A=1+2;;", 6);
        dueError("A=1+2B", 5);
        dueError("A=1;B=2 ", 7);
        dueError(" A=1", 0);
        dueError("A=1;b=2", 4);
        dueError("A=" + (char) ('1' + 256), 2);
        dueError((char) ('A' + 256) + "=1", 0);
        dueError("A=" + (char) 0, 2);
        dueError((char) 0 + "", 0);
        dueError("A" + (char) 0 + "1", 1);
        dueError("A=1" + (char) 0, 3);
        dueError("A=1" + (char) 65535, 3);
        dueError("A=" + (char) 0x0661, 2);
    }

    private void numbers() {
        for (String number : new String[] {"0", "7", "9", "10", "100", "9999", "10000", "59999", "64999",
            "65499", "65529", "65535"}) {
            dueError("A=" + number, NimberField.NONE);
            dueError("A=~" + number, NimberField.NONE);
            dueError("A=" + number + "+" + number + ";B=" + number, NimberField.NONE);
            checks.due("A=" + number, Integer.parseInt(number), Given.program("A=" + number).carryOut());
        }
        dueError("A=05", 3);
        dueError("A=00", 3);
        dueError("A=1+00", 5);
        dueError("A=~01", 4);
        dueError("A=65536", 6);
        dueError("A=65540", 6);
        dueError("A=65600", 6);
        dueError("A=66000", 6);
        dueError("A=70000", 6);
        dueError("A=99999", 6);
        dueError("A=100000", 7);
        dueError("A=655350", 7);
        dueError("A=1+65536", 8);
        dueError("A=%65536", 7);
        dueError("A=1+655350", 9);
    }

    /** Every character after every beginning of one program, by what may stand there. */
    private void everyCharacterEverywhere() {
        String program = "A=B+12;C=~3";
        String[] allowed = {"ABCDEFGH", "=", "ABCDEFGH0123456789~%", "+*/^;", "ABCDEFGH0123456789",
            "0123456789;", "0123456789;", "ABCDEFGH", "=", "ABCDEFGH0123456789~%", "ABCDEFGH0123456789",
            "0123456789;"};
        for (int length = 0; length <= program.length(); length++) {
            for (char character = 0; character < 300; character++) {
                NimberField x = Given.program(program.substring(0, length) + character);
                boolean fits = allowed[length].indexOf(character) >= 0;
                int error = x.programError();
                checks.holds("character " + (int) character + " at " + length,
                        fits == (error == NimberField.NONE || error == length + 1));
                checks.holds("an error at its place", fits || error == length);
            }
        }
    }

    private void longPrograms() {
        String fourteen = "A=1;".repeat(14);
        dueError(fourteen + "A=12", NimberField.NONE);
        dueError(fourteen + "A=1", NimberField.NONE);
        dueError(fourteen + "A=1;", 60);
        dueError(fourteen + "A=1+", 60);
        dueError(fourteen + "A=1A", 59);
        dueError(fourteen + "A==1", 58);
        dueError("A=12345+12345;".repeat(4) + "A=~~", 59);
        NimberField x = Given.program("A=A+1;".repeat(9) + "B=~A;C");
        checks.due("programError", 60, x.programError());
        NimberField fifteen = Given.program("B=1;".repeat(13) + "A=0;A=~A");
        checks.due("length", 60, fifteen.clearProgram());
        Given.retype(fifteen, "B=1;".repeat(13) + "A=0;A=~A");
        checks.due("trappedStep", 14, fifteen.trappedStep());
        Given.retype(fifteen, "A=1;B=A+2;C=B+4;D=C+8;E=D;F=E;G=F;H=G;A=H;B=A;C=B;D=C;E=D;HH");
        checks.due("programError", 59, fifteen.programError());
    }

    private void traps() {
        checks.due("A=1", NimberField.NONE, Given.program("A=1").trappedStep());
        checks.due("A=~B", 0, Given.program("A=~B").trappedStep());
        checks.due("A=~0", 0, Given.program("A=~0").trappedStep());
        checks.due("A=0/0", 0, Given.program("A=0/0").trappedStep());
        checks.due("A=1/B", 0, Given.program("A=1/B").trappedStep());
        checks.due("A=0/1", NimberField.NONE, Given.program("A=0/1").trappedStep());
        checks.due("A=%0", NimberField.NONE, Given.program("A=%0").trappedStep());
        checks.due("A=0^0", NimberField.NONE, Given.program("A=0^0").trappedStep());
        checks.due("A=0*0", NimberField.NONE, Given.program("A=0*0").trappedStep());
        checks.due("A=5;B=~A", NimberField.NONE, Given.program("A=5;B=~A").trappedStep());
        checks.due("A=5;A=A+A;B=~A;C=~D", 2, Given.program("A=5;A=A+A;B=~A;C=~D").trappedStep());
        NimberField x = Given.program("B=1/A;A=B+B;C=A/A");
        checks.due("trappedStep", 0, x.trappedStep());
        x.set(0, 40000);
        checks.due("trappedStep", 2, x.trappedStep());
        checks.due("trappedStep again", 2, x.trappedStep());
        checks.due("sumOfAll", 40000, x.sumOfAll());
        checks.due("recordedStates", 1, x.recordedStates());
    }

    private void carryingOut() {
        NimberField x = Given.program("A=5;B=~A;C=A*B;D=%A;E=D^2;F=E+A");
        checks.due("carryOut", 0, x.carryOut());
        checks.due("A", 5, x.nimberOf(0));
        checks.due("A B", 1, Reference.times(5, x.nimberOf(1)));
        checks.due("C", 1, x.nimberOf(2));
        checks.due("D D", 5, Reference.square(x.nimberOf(3)));
        checks.due("E", 5, x.nimberOf(4));
        checks.due("F", 0, x.nimberOf(5));
        checks.due("the program stays", 31, x.clearProgram());
        Given.retype(x, "H=A;A=A*A");
        checks.due("carryOut", Reference.square(5), x.carryOut());
        checks.due("carryOut again", Reference.power(5, 4), x.carryOut());
        checks.due("H", Reference.square(5), x.nimberOf(7));
    }

    private void eachKindOfStep() {
        int[] nimbers = {0, 1, 2, 3, 15, 16, 255, 256, 300, 40000, 65535};
        for (int left : nimbers) {
            dueResult("A=" + left, left, 0, left);
            dueResult("C=A", left, 0, left);
            dueResult("C=%A", left, 0, Reference.root(left));
            dueResult("C=%" + left, 0, 0, Reference.root(left));
            if (left > 0) {
                dueResult("C=~A", left, 0, Reference.inverse(left));
                dueResult("C=~" + left, 0, 0, Reference.inverse(left));
            }
            for (int right : nimbers) {
                dueResult("C=A+B", left, right, left ^ right);
                dueResult("C=A*B", left, right, Reference.times(left, right));
                dueResult("C=A^B", left, right, Reference.power(left, right));
                dueResult("C=" + left + "^" + right, 0, 0, Reference.power(left, right));
                dueResult("C=" + left + "*B", 0, right, Reference.times(left, right));
                dueResult("C=A+" + right, left, 0, left ^ right);
                if (right > 0) {
                    int quotient = Reference.times(left, Reference.inverse(right));
                    dueResult("C=A/B", left, right, quotient);
                    dueResult("C=" + left + "/" + right, 0, 0, quotient);
                }
            }
        }
    }

    private void dueResult(String program, int a, int b, int due) {
        NimberField x = Given.program(program);
        x.set(0, a);
        x.set(1, b);
        checks.due("trappedStep of " + program, NimberField.NONE, x.trappedStep());
        checks.due(program + " with " + a + " and " + b, due, x.carryOut());
        checks.due("target of " + program, due, x.nimberOf(program.charAt(0) - 'A'));
        checks.due("products", program.indexOf('*') < 0 ? 0 : 1, x.products());
        x.undo();
        checks.due("undone", a ^ b, x.sumOfAll());
    }

    private void countingProducts() {
        NimberField x = Given.program("A=2*3;B=A*A;C=B/3;D=A^5;E=A+B;A=0*0");
        checks.due("trappedStep", NimberField.NONE, x.trappedStep());
        checks.due("products of a trial", 0, x.products());
        x.carryOut();
        checks.due("products", 3, x.products());
        x.carryOut();
        checks.due("products", 6, x.products());
        x.undo();
        checks.due("products", 3, x.products());
        Given.retype(x, "A=1*1;B=~0");
        checks.stateThrow("carryOut", x::carryOut);
        checks.due("products", 3, x.products());
    }

    private void carryOutIsOneAction() {
        NimberField x = Given.program("A=1;B=2;C=3;D=4;E=5;F=6");
        x.carryOut();
        checks.due("recordedStates", 1, x.recordedStates());
        checks.due("sumOfAll", 1 ^ 2 ^ 3 ^ 4 ^ 5 ^ 6, x.sumOfAll());
        checks.due("undo", 0, x.undo());
        checks.due("sumOfAll", 0, x.sumOfAll());
        checks.due("the program is no part of the state", 23, x.clearProgram());
    }

    private void notCarriedOut() {
        NimberField x = Given.program("A=7;B=A*A;C=1/D");
        x.set(1, 9);
        checks.stateThrow("carryOut", x::carryOut);
        checks.due("A", 0, x.nimberOf(0));
        checks.due("B", 9, x.nimberOf(1));
        checks.due("recordedStates", 1, x.recordedStates());
        checks.due("products", 0, x.products());
        x.type('+');
        checks.stateThrow("carryOut", x::carryOut);
        checks.stateThrow("trappedStep", x::trappedStep);
        checks.due("sumOfAll", 9, x.sumOfAll());
        checks.due("length", 16, x.clearProgram());
    }
}
