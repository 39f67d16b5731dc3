/** One test for each sentence of promises 11 to 13 and 17 and 18: put, move, compute, and the errors counted. */
public final class CallSentencesTest {
    private static final Checks CHECKS = new Checks();
    private static final int[] NO_MODES = {Integer.MIN_VALUE, -1, 8, 9, 16, Integer.MAX_VALUE};
    private static final int[] NOT_THERE = {Integer.MIN_VALUE, -1, 4, 5, 12, 64, Integer.MAX_VALUE};

    public static void main(String[] args) {
        puts();
        putsRefused();
        moves();
        movesRefused();
        movesNotSound();
        computes();
        computeSizeErrors();
        computesRefused();
        computesNotSound();
        computeByZero();
        sizeErrors();
        dataErrors();
        CHECKS.finish();
    }

    /** Field 0 is 12, 1 is edited, 2 is not sound, 3 is zero. */
    private static PicturedRecord mixed() {
        PicturedRecord r = Records.zoned("99", 12, "Z9", 3, "99", 5, "9", 0);
        r.poke(4, 'x');
        return r;
    }

    private static void puts() {
        CHECKS.sentence("Stores v divided by 10 to the scale into field f by MOVE");
        long[] due = {123456789, 12345678, 1234567, 123456, 12345, 1234, 123, 12, 1, 0};
        for (int scale = 0; scale <= 9; scale++) {
            PicturedRecord r = Records.with("S9(9)", 0);
            CHECKS.same("put with scale " + scale, r.put(0, 123456789, scale), true);
            CHECKS.same("value with scale " + scale, r.value(0), due[scale]);
            CHECKS.same("put of a negative one", r.put(0, -123456789, scale), true);
            CHECKS.same("its value", r.value(0), -due[scale]);
        }
        PicturedRecord r = Records.with("S9(5)V9(4)", 0);
        r.put(0, Integer.MAX_VALUE, 0);
        CHECKS.same("the greatest number", r.value(0), 836470000);
        r.put(0, Integer.MIN_VALUE, 0);
        CHECKS.same("the least number", r.value(0), -836480000);
        r.put(0, Integer.MAX_VALUE, 9);
        CHECKS.same("the greatest number with scale 9", r.value(0), 21474);
        r.put(0, Integer.MIN_VALUE, 9);
        CHECKS.same("the least number with scale 9", r.value(0), -21474);
        r.put(0, 429497, 0);
        CHECKS.same("a number of units beyond 2 to the 32", r.value(0), 294970000);
        r.put(0, 99999, 9);
        CHECKS.same("a number too small", r.value(0), 0);
        r.put(0, 100000, 9);
        CHECKS.same("a number just large enough", r.value(0), 1);
    }

    private static void putsRefused() {
        CHECKS.sentence("false, changing nothing, when there is no such field or scale is not 0 .. 9.");
        PicturedRecord r = mixed();
        String before = Records.state(r);
        for (int f : NOT_THERE) {
            CHECKS.same("put into " + f, r.put(f, 1, 0), false);
        }
        for (int scale : new int[] {Integer.MIN_VALUE, -1, 10, 11, 32, Integer.MAX_VALUE}) {
            CHECKS.same("put with scale " + scale, r.put(0, 1, scale), false);
        }
        CHECKS.same("put of both", r.put(4, 1, 10), false);
        CHECKS.same("what is there", Records.state(r), before);
        CHECKS.same("put into one not sound", r.put(2, 1, 0), true);
        CHECKS.same("put into an edited one", r.put(1, 1, 0), true);
    }

    private static void moves() {
        CHECKS.sentence("Stores the value of field from into field to by MOVE: 0.");
        PicturedRecord r = Records.zoned("S9(3)V99", -12399, "S99", 0, "9(5)V9(4)", 0, "--9.9", 0);
        CHECKS.same("move to fewer digits", r.move(0, 1), 0);
        CHECKS.same("value", r.value(1), -23);
        CHECKS.same("move to more digits", r.move(0, 2), 0);
        CHECKS.same("value", r.value(2), 1239900);
        CHECKS.same("move to an edited field", r.move(0, 3), 0);
        CHECKS.same("text", Records.text(r, 16, 5), "-23.9");
        CHECKS.same("move from an edited field", r.move(3, 1), 0);
        CHECKS.same("value", r.value(1), -23);
        CHECKS.same("from stays", r.value(0), -12399);
        PicturedRecord other = Records.with("S9(3)", 1);
        Records.pokeHex(other, 0, "123f");
        CHECKS.same("move to itself", other.move(0, 0), 0);
        CHECKS.same("it is stored once more", Records.hex(other, 0, 2), "123c");
        PicturedRecord unsound = mixed();
        CHECKS.same("move to one not sound", unsound.move(0, 2), 0);
        CHECKS.same("value", unsound.value(2), 12);
    }

    private static void movesRefused() {
        CHECKS.sentence("It answers -1 if one of the fields is not there");
        PicturedRecord r = mixed();
        for (int f : NOT_THERE) {
            CHECKS.same("from " + f, r.move(f, 0), -1);
            CHECKS.same("to " + f, r.move(0, f), -1);
            CHECKS.same("both " + f, r.move(f, f), -1);
            CHECKS.same("to " + f + " from one not sound", r.move(2, f), -1);
        }
        CHECKS.same("data errors", r.dataErrors(), 0);
    }

    private static void movesNotSound() {
        CHECKS.sentence("else -2 if field from is not SOUND.");
        PicturedRecord r = mixed();
        CHECKS.same("from one not sound", r.move(2, 0), -2);
        CHECKS.same("from and to one not sound", r.move(2, 2), -2);
        r.poke(3, 'x');
        CHECKS.same("from an edited one not sound", r.move(1, 0), -2);
        CHECKS.same("value left", r.value(0), 12);
    }

    private static void computes() {
        CHECKS.sentence("Stores a result into field to: the value of field a plus (op 0), minus (1), times (2) or divided "
            + "by (3) that of field b, with a mode: 0");
        int[] due = {8750, 6250, 937, 60000};
        for (int op = 0; op <= 3; op++) {
            PicturedRecord r = Records.zoned("S9V99", 75, "SV9(3)", 125, "S99V9(4)", 1);
            CHECKS.same("op " + op, r.compute(op, 0, 1, 2, 0), 0);
            CHECKS.same("value of op " + op, r.value(2), due[op]);
            CHECKS.same("a stays", r.value(0), 75);
            CHECKS.same("b stays", r.value(1), 125);
        }
        PicturedRecord minus = Records.zoned("9", 3, "9", 8, "S9", 0);
        CHECKS.same("3 - 8", minus.compute(1, 0, 1, 2, 0), 0);
        CHECKS.same("its value", minus.value(2), -5);
        PicturedRecord edited = Records.zoned("9", 3, "9", 8, "+9.99", 0);
        CHECKS.same("3 / 8 to an edited field", edited.compute(3, 0, 1, 2, 1), 0);
        CHECKS.same("its text", Records.text(edited, 2, 5), "+0.38");
        PicturedRecord r = mixed();
        CHECKS.same("to one not sound", r.compute(0, 0, 0, 2, 0), 0);
        CHECKS.same("its value", r.value(2), 24);
    }

    private static void computeSizeErrors() {
        CHECKS.sentence("1 if there is a size error.");
        PicturedRecord r = Records.zoned("9(3)", 999, "9(3)", 1, "9(3)", 5, "9V9", 0, "Z9", 7);
        CHECKS.same("999 + 1", r.compute(0, 0, 1, 2, 0), 1);
        CHECKS.same("999 - 1", r.compute(1, 0, 1, 2, 0), 0);
        CHECKS.same("999 * 1", r.compute(2, 0, 1, 2, 0), 0);
        CHECKS.same("999 * 999", r.compute(2, 0, 0, 2, 0), 1);
        CHECKS.same("999 / 1 to a small field", r.compute(3, 0, 1, 3, 0), 1);
        CHECKS.same("1 / 999 in mode 7", r.compute(3, 1, 0, 2, 7), 1);
        CHECKS.same("999 + 1 to an edited field", r.compute(0, 0, 1, 4, 0), 1);
        CHECKS.same("values left", r.value(2), 999);
        CHECKS.same("edited value left", r.value(4), 7);
    }

    private static void computesRefused() {
        CHECKS.sentence("It answers -1 if op is not 0 .. 3, mode is not 0 .. 7, one of the fields is not there, or a or b is "
            + "edited");
        PicturedRecord r = mixed();
        for (int op : new int[] {Integer.MIN_VALUE, -1, 4, 5, Integer.MAX_VALUE}) {
            CHECKS.same("op " + op, r.compute(op, 0, 0, 0, 0), -1);
            CHECKS.same("op " + op + ", a not sound", r.compute(op, 2, 0, 0, 0), -1);
        }
        for (int mode : NO_MODES) {
            CHECKS.same("mode " + mode, r.compute(0, 0, 0, 0, mode), -1);
            CHECKS.same("mode " + mode + ", by zero", r.compute(3, 0, 3, 0, mode), -1);
        }
        for (int f : NOT_THERE) {
            CHECKS.same("a " + f, r.compute(0, f, 0, 0, 0), -1);
            CHECKS.same("b " + f, r.compute(0, 0, f, 0, 0), -1);
            CHECKS.same("to " + f, r.compute(0, 0, 0, f, 0), -1);
            CHECKS.same("to " + f + ", b not sound", r.compute(0, 0, 2, f, 0), -1);
        }
        CHECKS.same("a edited", r.compute(0, 1, 0, 0, 0), -1);
        CHECKS.same("b edited", r.compute(0, 0, 1, 0, 0), -1);
        CHECKS.same("a edited, b not sound", r.compute(0, 1, 2, 0, 0), -1);
        CHECKS.same("b edited, a not sound", r.compute(0, 2, 1, 0, 0), -1);
        for (int mode = 0; mode <= 7; mode++) {
            CHECKS.same("mode " + mode, r.compute(0, 3, 3, 3, mode), 0);
        }
        CHECKS.same("errors", r.sizeErrors() + r.dataErrors(), 0);
    }

    private static void computesNotSound() {
        CHECKS.sentence("else -2 if a or b is not SOUND.");
        for (int op = 0; op <= 3; op++) {
            PicturedRecord r = mixed();
            CHECKS.same("a not sound, op " + op, r.compute(op, 2, 0, 0, 0), -2);
            CHECKS.same("b not sound, op " + op, r.compute(op, 0, 2, 0, 0), -2);
            CHECKS.same("both not sound, op " + op, r.compute(op, 2, 2, 2, 0), -2);
            CHECKS.same("a not sound, b zero, op " + op, r.compute(op, 2, 3, 0, 0), -2);
            CHECKS.same("a zero, b not sound, op " + op, r.compute(op, 3, 2, 0, 0), -2);
            CHECKS.same("size errors", r.sizeErrors(), 0);
            CHECKS.same("value left", r.value(0), 12);
        }
    }

    private static void computeByZero() {
        CHECKS.sentence("Dividing by zero is a size error.");
        for (int mode = 0; mode <= 7; mode++) {
            PicturedRecord r = mixed();
            CHECKS.same("12 / 0 in mode " + mode, r.compute(3, 0, 3, 0, mode), 1);
            CHECKS.same("0 / 0 in mode " + mode, r.compute(3, 3, 3, 0, mode), 1);
            CHECKS.same("value left", r.value(0), 12);
            CHECKS.same("size errors", r.sizeErrors(), 2);
            CHECKS.same("0 / 12 in mode " + mode, r.compute(3, 3, 0, 0, mode), 0);
            CHECKS.same("its value", r.value(0), 0);
        }
        PicturedRecord minus = Records.zoned("9", 5, "S9", 0);
        minus.poke(1, 'p');
        CHECKS.same("by a zero with the sign of a negative number", minus.compute(3, 0, 1, 0, 0), 1);
    }

    private static void sizeErrors() {
        CHECKS.sentence("How many size errors there were in all calls; those of addTo() are counted field by field.");
        PicturedRecord r = Records.zoned("9", 9, "9", 9, "9", 9, "9", 0, "9V9", 5, "V9", 5);
        CHECKS.same("none yet", r.sizeErrors(), 0);
        r.compute(0, 0, 1, 2, 0);
        CHECKS.same("behind compute", r.sizeErrors(), 1);
        r.divide(0, 3, 1, 2, 0);
        CHECKS.same("behind divide with an error in q", r.sizeErrors(), 2);
        r.divide(3, 0, 4, 5, 0);
        CHECKS.same("behind divide without errors", r.sizeErrors(), 2);
        r.put(4, 15, 1);
        r.put(5, 5, 1);
        r.divide(4, 0, 3, 5, 0);
        CHECKS.same("behind divide with an error in r", r.sizeErrors(), 3);
        CHECKS.same("addTo with three errors", r.addTo(0, 0, 3, 0), 7);
        CHECKS.same("behind addTo", r.sizeErrors(), 6);
        r.total(0, 2, 3, 0);
        CHECKS.same("behind total", r.sizeErrors(), 7);
        r.compute(0, 4, 4, 3, 8);
        r.put(0, 12345, 0);
        r.move(4, 5);
        CHECKS.same("behind a refusal, put and move", r.sizeErrors(), 7);
        r.poke(0, 'x');
        r.compute(3, 0, 3, 0, 0);
        CHECKS.same("behind a data error", r.sizeErrors(), 7);
        CHECKS.same("asking counts nothing", r.sizeErrors(), 7);
    }

    private static void dataErrors() {
        CHECKS.sentence("How many calls answered -2, those of field() not counted.");
        PicturedRecord r = mixed();
        CHECKS.same("none yet", r.dataErrors(), 0);
        r.value(2);
        CHECKS.same("behind value", r.dataErrors(), 0);
        CHECKS.same("field with a usage that does not go", Records.make(r, "9", 2, 0), -2);
        CHECKS.same("field with no usage", r.field(9, 0), -2);
        CHECKS.same("behind field", r.dataErrors(), 0);
        r.move(2, 0);
        CHECKS.same("behind move", r.dataErrors(), 1);
        r.compute(0, 2, 2, 0, 0);
        CHECKS.same("behind compute, twice not sound", r.dataErrors(), 2);
        r.divide(2, 2, 0, 0, 0);
        CHECKS.same("behind divide, twice not sound", r.dataErrors(), 3);
        r.addTo(2, 0, 3, 0);
        CHECKS.same("behind addTo, twice not sound", r.dataErrors(), 4);
        r.total(0, 3, 0, 0);
        CHECKS.same("behind total", r.dataErrors(), 5);
        r.move(2, 9);
        r.compute(0, 2, 1, 0, 0);
        CHECKS.same("behind refusals", r.dataErrors(), 5);
        r.compute(3, 0, 3, 0, 0);
        CHECKS.same("behind a size error", r.dataErrors(), 5);
        CHECKS.same("asking counts nothing", r.dataErrors(), 5);
    }
}
