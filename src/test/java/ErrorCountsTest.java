/** Promises 17 and 18: sizeErrors and dataErrors. */
public final class ErrorCountsTest {
    private static final Checks CHECKS = new Checks();

    public static void main(String[] args) {
        sizeErrorsOfEachCall();
        dataErrorsOfEachCall();
        unitsThatLookLikeAnError();
        CHECKS.finish();
    }

    private static void counted(PicturedRecord r, String what, int size, int data) {
        CHECKS.same("size errors behind " + what, r.sizeErrors(), size);
        CHECKS.same("data errors behind " + what, r.dataErrors(), data);
    }

    private static void sizeErrorsOfEachCall() {
        PicturedRecord r = Records.zoned("9", 9, "9", 0, "9", 9, "9V9", 0, "V9", 1);
        counted(r, "puts", 0, 0);
        r.compute(0, 0, 0, 0, 0);
        counted(r, "a sum too large", 1, 0);
        r.compute(3, 0, 1, 0, 0);
        counted(r, "compute by zero", 2, 0);
        r.compute(0, 4, 1, 0, 7);
        counted(r, "mode 7", 3, 0);
        r.divide(0, 1, 2, 2, 0);
        counted(r, "divide by zero", 4, 0);
        r.divide(0, 0, 2, 2, 0);
        counted(r, "divide without an error", 4, 0);
        r.divide(1, 0, 2, 1, 0);
        counted(r, "divide of zero", 4, 0);
        r.put(2, 5, 0);
        r.divide(2, 0, 1, 4, 0);
        counted(r, "a remainder too large", 5, 0);
        r.put(1, 8, 0);
        r.addTo(0, 0, 2, 0);
        counted(r, "three errors of addTo", 8, 0);
        r.total(0, 2, 1, 0);
        counted(r, "total", 9, 0);
        r.put(0, 123456, 0);
        r.move(3, 4);
        counted(r, "digits cut by MOVE", 9, 0);
        r.compute(0, 0, 0, 0, 8);
        r.compute(4, 0, 0, 0, 0);
        r.total(0, 9, 0, 0);
        counted(r, "refusals", 9, 0);
        r.sizeErrors();
        counted(r, "asking", 9, 0);
    }

    private static void dataErrorsOfEachCall() {
        PicturedRecord r = Records.zoned("9", 9, "9", 1);
        r.poke(0, 0);
        r.value(0);
        counted(r, "value", 0, 0);
        r.move(0, 1);
        counted(r, "move", 0, 1);
        r.compute(0, 0, 0, 1, 0);
        counted(r, "compute", 0, 2);
        r.divide(0, 1, 1, 1, 0);
        counted(r, "divide", 0, 3);
        r.addTo(1, 0, 1, 0);
        counted(r, "addTo", 0, 4);
        r.total(0, 1, 1, 0);
        counted(r, "total", 0, 5);
        Records.make(r, "9", 2, 0);
        Records.make(r, "9", 7, 0);
        counted(r, "field with a usage that does not go", 0, 5);
        r.move(0, 5);
        r.compute(0, 0, 0, 5, 0);
        counted(r, "refusals", 0, 5);
        r.dataErrors();
        counted(r, "asking", 0, 5);
    }

    /** -2 is an error where a promise says so; as units it is a number like any other. */
    private static void unitsThatLookLikeAnError() {
        PicturedRecord r = Records.zoned("S9", -2, "S9", 0);
        CHECKS.same("units", r.value(0), -2);
        counted(r, "value of -2", 0, 0);
        CHECKS.same("move", r.move(0, 1), 0);
        CHECKS.same("sum", r.total(0, 0, 1, 7), 0);
        CHECKS.same("moved units", r.value(1), -2);
        counted(r, "-2 moved and added", 0, 0);
    }
}
