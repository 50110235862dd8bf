/** The boundary cases of the programs: "Programs" in the section "Terms", and promises 7 to 11. */
public final class BoundaryProgramsTest {
    /** Fourteen steps and a ";": four characters more make the program full. */
    private static final String FOURTEEN = "B=1;".repeat(14);
    private static final String[] BEFORE_OPERAND = {"A=", "A=~", "A=%", "A=1+", "A=1*", "A=1/", "A=1^", "A=B;C="};
    private static final int NONE = NimberField.NONE;

    private final Checks checks = new Checks("BoundaryProgramsTest");

    public static void main(String[] args) {
        BoundaryProgramsTest test = new BoundaryProgramsTest();
        test.termsOfTheText();
        test.termsOfTheSteps();
        test.termsOfTheResult();
        test.termsOfTheError();
        test.typing();
        test.clearing();
        test.errors();
        test.trappedSteps();
        test.carryingOut();
        test.checks.end();
    }

    private void dueError(String program, int due) {
        checks.due("programError of " + program, due, Given.program(program).programError());
    }

    private void dueResult(String program, int due) {
        checks.due("carryOut of " + program, due, Given.program(program).carryOut());
    }

    private void dueTrap(String program, int due) {
        checks.due("trappedStep of " + program, due, Given.program(program).trappedStep());
        if (due != NONE) {
            checks.stateThrow("carryOut of " + program, Given.program(program)::carryOut);
        }
    }

    // ---- Terms: the text

    private void termsOfTheText() {
        atMost60Characters();
        emptyAtFirst();
        oneOrMoreSteps();
        semicolonBetweenTwo();
    }

    private void atMost60Characters() {
        checks.sentence("The program is a text of at most 60 characters");
        NimberField x = Given.program(FOURTEEN + "A=77");
        checks.stateThrow("the 61st", () -> x.type('7'));
        checks.due("60 characters", NONE, x.programError());
        checks.due("the 60th counts", 77, x.carryOut());
        checks.due("clearProgram", 60, x.clearProgram());
    }

    private void emptyAtFirst() {
        checks.sentence("empty at first");
        checks.due("programError", 0, new NimberField().programError());
        checks.due("clearProgram", 0, new NimberField().clearProgram());
        checks.due("type", 1, new NimberField().type('A'));
    }

    private void oneOrMoreSteps() {
        checks.sentence("A valid program consists of one or more steps");
        dueError("", 0);
        dueError("A=1", NONE);
        dueError("A=1;A=2", NONE);
        dueError(FOURTEEN + "A=1", NONE);
        dueError(FOURTEEN + "A=12", NONE);
        NimberField x = Given.program("A=A+1;".repeat(9) + "A=A+1");
        x.carryOut();
        checks.due("ten steps", 0, x.nimberOf(0));
        NimberField fifteen = Given.program(FOURTEEN + "A=9");
        checks.due("fifteen steps", 9, fifteen.carryOut());
        checks.due("the fifteenth is done", 9, fifteen.nimberOf(0));
    }

    private void semicolonBetweenTwo() {
        checks.sentence("with \";\" between two of them");
        dueError(";", 0);
        dueError(";A=1", 0);
        dueError("A=1;", 4);
        dueError("A=1;;B=2", 4);
        dueError("A=1B=2", 3);
        dueError("A=BC=2", 3);
        dueError("A=~1B=2", 4);
        dueError("A=1+B:C=2", 5);
    }

    // ---- Terms: the steps

    private void termsOfTheSteps() {
        registerAndEqualsSign();
        oneOfThese();
        operandFirstAndLastRegister();
        numbersFrom0To65535();
        noLeadingZeros();
        numberAsPower();
    }

    private void registerAndEqualsSign() {
        checks.sentence("A step is a register, \"=\"");
        dueResult("A=5", 5);
        dueResult("H=5", 5);
        dueError("@=5", 0);
        dueError("I=5", 0);
        dueError("A5", 1);
        dueError("A", 1);
        dueError("A<5", 1);
        dueError("A>5", 1);
    }

    private void oneOfThese() {
        checks.sentence("one of these: an operand; \"~\" and an operand; \"%\" and an operand; "
                + "or an operand, one of \"+\", \"*\", \"/\" and \"^\", and an operand");
        for (String rest : new String[] {"1", "~1", "%1", "1+1", "1*1", "1/1", "1^1", "H", "~H", "%H", "H+H",
            "H*H", "H/H", "H^H"}) {
            dueError("A=" + rest, NONE);
        }
        for (String rest : new String[] {"", "~", "%", "1+", "H*", "1/", "H^"}) {
            dueError("A=" + rest, 2 + rest.length());
        }
        for (String sign : new String[] {"+", "*", "/", "^"}) {
            dueError("A=" + sign + "1", 2);
            dueError("A=~1" + sign, 4);
            dueError("A=%H" + sign, 4);
            dueError("A=1" + sign + "~1", 4);
            dueError("A=1" + sign + "2" + sign, 5);
        }
        for (String sign : new String[] {"-", ",", ".", ")", ":", "_", "]", "~", "%", "=", "$", "&", "}"}) {
            dueError("A=1" + sign, 3);
        }
    }

    private void operandFirstAndLastRegister() {
        checks.sentence("An operand is a register");
        for (String before : BEFORE_OPERAND) {
            dueError(before + "A", NONE);
            dueError(before + "H", NONE);
            dueError(before + "@", before.length());
            dueError(before + "I", before.length());
            dueError(before + "a", before.length());
            dueError(before + "h", before.length());
            dueError(before + "A1", before.length() + 1);
            dueError(before + "AB", before.length() + 1);
        }
    }

    private void numbersFrom0To65535() {
        checks.sentence("or a number from 0 to 65535");
        for (String before : BEFORE_OPERAND) {
            int at = before.length();
            dueError(before + "0", NONE);
            dueError(before + "9", NONE);
            dueError(before + "9999", NONE);
            dueError(before + "10000", NONE);
            dueError(before + "65535", NONE);
            dueError(before + "65536", at + 4);
            dueError(before + "65539", at + 4);
            dueError(before + "65540", at + 4);
            dueError(before + "65530", NONE);
            dueError(before + "65529", NONE);
            dueError(before + "59999", NONE);
            dueError(before + "65600", at + 4);
            dueError(before + "66000", at + 4);
            dueError(before + "70000", at + 4);
            dueError(before + "99999", at + 4);
            dueError(before + "655350", at + 5);
            dueError(before + "100000", at + 5);
            dueError(before + "-1", at);
            dueError(before + "/", at);
            dueError(before + ":", at);
        }
        dueResult("A=0", 0);
        dueResult("A=65535", 65535);
        dueResult("A=65535+65534", 1);
    }

    private void noLeadingZeros() {
        checks.sentence("without leading zeros");
        for (String before : BEFORE_OPERAND) {
            dueError(before + "00", before.length() + 1);
            dueError(before + "01", before.length() + 1);
            dueError(before + "09", before.length() + 1);
            dueError(before + "000001", before.length() + 1);
            dueError(before + "10", NONE);
            dueError(before + "100", NONE);
        }
        dueError("A=0;B=0", NONE);
    }

    private void numberAsPower() {
        checks.sentence("behind \"^\" the number that the operand is counts as the power");
        dueResult("A=0^0", 1);
        dueResult("A=65535^0", 1);
        dueResult("A=65535^1", 65535);
        dueResult("A=65535^2", 40111);
        dueResult("A=65535^65535", 1);
        dueResult("A=0^65535", 0);
        dueResult("A=B^B", 1);
        dueResult("A=3;B=A^A", 1);
        dueResult("A=2;B=3^A", 2);
        dueResult("A=65535;B=A^A", 1);
    }

    // ---- Terms: the result, the traps and the first error

    private void termsOfTheResult() {
        resultIntoRegister();
        traps();
    }

    private void resultIntoRegister() {
        checks.sentence("The result is put into the register.");
        NimberField x = Given.registers(5, 6, 7, 8, 9, 10, 11, 12);
        Given.type(x, "H=H+A");
        checks.due("H=H+A", 9, x.carryOut());
        checks.due("H", 9, x.nimberOf(7));
        checks.due("A", 5, x.nimberOf(0));
        checks.due("the others stay", 5 ^ 6 ^ 7 ^ 8 ^ 9 ^ 10 ^ 11 ^ 9, x.sumOfAll());
        Given.retype(x, "A=A+A");
        checks.due("A=A+A", 0, x.carryOut());
        Given.retype(x, "G=G");
        checks.due("G=G", 11, x.carryOut());
    }

    private void traps() {
        checks.sentence("A step traps if it has to divide by 0, or to find the inverse of 0.");
        for (String trap : new String[] {"A=~0", "A=~H", "A=0/0", "A=65535/0", "A=1/H", "A=H/H"}) {
            dueTrap(trap, 0);
        }
        for (String fine : new String[] {"A=~1", "A=~65535", "A=0/1", "A=H/65535", "A=%0", "A=%H", "A=0^0", "A=0*0",
            "A=0+0", "A=0", "A=H", "A=H^H", "A=0^1"}) {
            dueTrap(fine, NONE);
        }
        dueResult("A=0/1", 0);
        dueResult("A=~1", 1);
        dueResult("A=%0", 0);
    }

    private void termsOfTheError() {
        ofAnyLength();
        endsTooEarly();
        firstOfSeveralErrors();
    }

    private void ofAnyLength() {
        checks.sentence("the index of the first character "
                + "that no valid program (of any length) can have at that place");
        dueError(FOURTEEN + "A=1;", 60);
        dueError(FOURTEEN + "A=1+", 60);
        dueError(FOURTEEN + "A=~B", NONE);
        dueError("A=1;B=10+10;".repeat(4) + "A=10+10;A=~~", 59);
        dueError("A=1;B=10+10;".repeat(4) + "A=10+10;A=1/", 60);
        dueError("A=1;B=10+10;".repeat(4) + "A=10+100;A=~", 60);
        dueError("A=1;B=10+10;".repeat(4) + "A=100+100;A=", 60);
        dueError("A=1;B=10+10;".repeat(4) + "A=100+1000;A", 60);
        dueError("A=1;B=10+10;".repeat(4) + "A=100+1000;=", 59);
        dueError("A=1;B=10+10;".repeat(4) + "A=1000+1000;", 60);
        dueError("=".repeat(60), 0);
        dueError("A".repeat(60), 1);
        dueError("A=" + "1".repeat(58), 7);
    }

    private void endsTooEarly() {
        checks.sentence("if there is none, but the program ends too early (an empty program does), "
                + "it is the length of the program");
        dueError("", 0);
        String program = "A=1+12;H=~C;C=%0;D=E/F";
        String endsHere = "A=1 A=1+1 A=1+12 A=1+12;H=~C A=1+12;H=~C;C=%0 A=1+12;H=~C;C=%0;D=E " + program;
        for (int length = 0; length <= program.length(); length++) {
            String part = program.substring(0, length);
            boolean valid = (" " + endsHere + " ").contains(" " + part + " ");
            dueError(part, valid ? NONE : length);
        }
    }

    private void firstOfSeveralErrors() {
        checks.sentence("The first error of a program");
        dueError("I==", 0);
        dueError("A==;;", 2);
        dueError("A=1;I", 4);
        dueError("A=00;B=00", 3);
        dueError("A=1 ", 3);
        dueError(" ", 0);
        dueError("A=" + (char) ('0' + 32768), 2);
        dueError((char) ('A' + 256) + "=1", 0);
        dueError("A=" + (char) ('1' + 256), 2);
        dueError("A=1" + (char) (';' + 256) + "B=2", 3);
        dueError("A=1" + (char) 0, 3);
        dueError("" + (char) 65535, 0);
    }

    // ---- 7

    private void typing() {
        typeAnyCharacter();
        typeReturnsTheLength();
        typeIntoAFullProgram();
    }

    private void typeAnyCharacter() {
        checks.sentence("7: character: any character");
        for (int character : new int[] {0, 1, 10, 32, 127, 128, 255, 256, 0xD800, 0xDC00, 0xFFFE, 0xFFFF}) {
            NimberField x = new NimberField();
            checks.due("type(" + character + ")", 1, x.type((char) character));
            checks.due("programError", 0, x.programError());
            checks.due("clearProgram", 1, x.clearProgram());
        }
    }

    private void typeReturnsTheLength() {
        checks.sentence("7: Returns the length of the program afterwards.");
        NimberField x = new NimberField();
        for (int length = 1; length <= 60; length++) {
            checks.due("type", length, x.type('A'));
        }
        x.clearProgram();
        checks.due("after clearProgram", 1, x.type('A'));
    }

    private void typeIntoAFullProgram() {
        checks.sentence("7: Throws IllegalStateException if the program has 60 characters");
        NimberField x = Given.program("A".repeat(59));
        checks.due("the 60th", 60, x.type('A'));
        for (char character : new char[] {0, 'A', ';', 65535}) {
            checks.stateThrow("the 61st", () -> x.type(character));
        }
        checks.due("clearProgram", 60, x.clearProgram());
        Given.type(x, FOURTEEN + "A=1;");
        checks.stateThrow("the 61st again", () -> x.type('B'));
        checks.due("programError", 60, x.programError());
    }

    // ---- 8

    private void clearing() {
        checks.sentence("8: Empties the program. Returns the length that it had.");
        NimberField x = new NimberField();
        checks.due("an empty one", 0, x.clearProgram());
        x.type('A');
        checks.due("one character", 1, x.clearProgram());
        checks.due("cleared twice", 0, x.clearProgram());
        checks.due("programError", 0, x.programError());
        Given.type(x, FOURTEEN + "A=77");
        x.carryOut();
        checks.due("a full one", 60, x.clearProgram());
        checks.stateThrow("carryOut of an empty one", x::carryOut);
        Given.type(x, "A=");
        checks.due("nothing of the former one", 2, x.programError());
    }

    // ---- 9

    private void errors() {
        checks.sentence("9: Returns its index; NONE if the program is valid.");
        NimberField x = new NimberField();
        String program = "H=~8";
        int[] due = {1, 2, 3, NONE};
        checks.due("empty", 0, x.programError());
        for (int index = 0; index < program.length(); index++) {
            x.type(program.charAt(index));
            checks.due("after " + (index + 1), due[index], x.programError());
        }
        x.type('~');
        checks.due("an error at the end", 4, x.programError());
        x.type('1');
        checks.due("it stays the first", 4, x.programError());
        checks.due("asking changes nothing", 6, x.clearProgram());
    }

    // ---- 10

    private void trappedSteps() {
        trapFirstAndLast();
        trapsOneAfterTheOther();
        trapNone();
        checks.sentence("10: Throws IllegalStateException if the program is not valid");
        checks.stateThrow("empty", new NimberField()::trappedStep);
        for (String program : new String[] {"A", "A=", "A=~", "A=1;", "A=1+", "A=65536", "A=01", "I=1",
            FOURTEEN + "A=1;", FOURTEEN + "A=1+"}) {
            checks.stateThrow("trappedStep of " + program, Given.program(program)::trappedStep);
        }
        checks.stateThrow("a trap ahead of an error", Given.program("A=~0;B")::trappedStep);
    }

    private void trapFirstAndLast() {
        checks.sentence("10: Returns the number of the step, from 0");
        dueTrap("A=~0", 0);
        dueTrap("A=1;A=~0", 1);
        dueTrap("A=~0;A=~0", 0);
        dueTrap(FOURTEEN + "A=~C", 14);
        dueTrap("A=1/0;" + "A=1;".repeat(12) + "A=1", 0);
        dueTrap("B=1;".repeat(13) + "A=~0;B=1", 13);
    }

    private void trapsOneAfterTheOther() {
        checks.sentence("10: would trap, if the steps were done now, one after the other");
        dueTrap("A=5;B=~A", NONE);
        dueTrap("A=5;A=A+A;B=~A", 2);
        dueTrap("B=~A;A=5", 0);
        NimberField x = Given.program("A=A+1;B=1/A");
        checks.due("A is 0", NONE, x.trappedStep());
        x.set(0, 1);
        checks.due("A is 1", 1, x.trappedStep());
        checks.due("asked again", 1, x.trappedStep());
        checks.due("A stays", 1, x.nimberOf(0));
        checks.due("recordedStates", 1, x.recordedStates());
        x.set(0, 0);
        checks.due("A is 0 again", NONE, x.trappedStep());
    }

    private void trapNone() {
        checks.sentence("10: NONE if none would.");
        dueTrap("A=1", NONE);
        dueTrap(FOURTEEN + "A=~B", NONE);
        dueTrap("A=0", NONE);
    }

    // ---- 11

    private void carryingOut() {
        oneActionForAllSteps();
        resultOfTheLastStep();
        checks.sentence("11: Throws IllegalStateException if the program is not valid");
        checks.stateThrow("empty", new NimberField()::carryOut);
        for (String program : new String[] {"A", "A=", "A=~", "A=1;", "A=1+", "A=65536", "A=01", "I=1",
            FOURTEEN + "A=1;", FOURTEEN + "A=1+"}) {
            NimberField x = Given.program(program);
            checks.stateThrow("carryOut of " + program, x::carryOut);
            checks.due("no step is done", 0, x.sumOfAll());
            checks.due("recordedStates", 0, x.recordedStates());
            checks.due("the program stays", program.length(), x.clearProgram());
        }
        carryOutTraps();
    }

    private void oneActionForAllSteps() {
        checks.sentence("11: Does all steps of the program, one after the other. The program stays as it is. "
                + "This is one action.");
        NimberField x = Given.program("A=1;B=A+1;C=B+1;D=C+4;E=D+8;F=E+16;G=F+32;H=G+64");
        checks.due("carryOut", 64 ^ 32 ^ 16 ^ 8 ^ 4 ^ 1 ^ 1 ^ 1, x.carryOut());
        checks.due("one recorded state for eight steps", 1, x.recordedStates());
        checks.due("undo", 0, x.undo());
        checks.due("all steps are undone", 0, x.sumOfAll());
        checks.due("the program stays", NONE, x.programError());
        for (int time = 1; time <= 5; time++) {
            x.carryOut();
            checks.due("recordedStates", Math.min(time, 4), x.recordedStates());
        }
        checks.due("the length stays", 48, x.clearProgram());
    }

    private void resultOfTheLastStep() {
        checks.sentence("11: Returns the result of the last step.");
        dueResult("A=7", 7);
        dueResult("A=7;B=8", 8);
        dueResult("A=7;B=8;A=0", 0);
        dueResult(FOURTEEN + "A=65", 65);
        dueResult("H=9;A=H", 9);
        NimberField x = Given.program("A=A+1");
        checks.due("once", 1, x.carryOut());
        checks.due("twice", 0, x.carryOut());
    }

    private void carryOutTraps() {
        checks.sentence("11: or a step traps");
        for (String program : new String[] {"A=~0", "A=5;B=A*A;A=1/C", "A=~B;B=1", FOURTEEN + "A=~C"}) {
            NimberField x = Given.program(program);
            checks.stateThrow("carryOut of " + program, x::carryOut);
            checks.due("no step is done", 0, x.sumOfAll());
            checks.due("no product is counted", 0, x.products());
            checks.due("recordedStates", 0, x.recordedStates());
            checks.due("the program stays", program.length(), x.clearProgram());
        }
        NimberField x = Given.program("A=A+1;B=1/A");
        checks.due("no trap at first", 1, x.carryOut());
        checks.stateThrow("a trap then", x::carryOut);
        checks.due("A", 1, x.nimberOf(0));
        checks.due("recordedStates", 1, x.recordedStates());
    }
}
