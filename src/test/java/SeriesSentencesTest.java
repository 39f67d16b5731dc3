/** One test for each sentence of promises 14 to 16: divide, addTo and total. */
public final class SeriesSentencesTest {
    private static final Checks CHECKS = new Checks();
    private static final int[] NO_MODES = {Integer.MIN_VALUE, -1, 8, 9, 16, Integer.MAX_VALUE};
    private static final int[] NOT_THERE = {Integer.MIN_VALUE, -1, 4, 5, 12, 64, Integer.MAX_VALUE};

    public static void main(String[] args) {
        divides();
        remainders();
        divideErrorsInQ();
        divideErrorsInR();
        dividesRefused();
        dividesNotSound();
        addsTo();
        addToErrors();
        addToRefused();
        addToNotSound();
        totals();
        totalErrors();
        totalRefused();
        totalNotSound();
        CHECKS.finish();
    }

    /** Field 0 is 12, 1 is edited, 2 is not sound, 3 is zero. */
    private static PicturedRecord mixed() {
        PicturedRecord r = Records.zoned("99", 12, "Z9", 3, "99", 5, "9", 0);
        r.poke(4, 'x');
        return r;
    }

    private static void divides(String a, int x, String b, int y, String q, String rest, int mode, long... due) {
        PicturedRecord r = Records.zoned(a, x, b, y, q, 1, rest, 1);
        String what = x + " of " + a + " by " + y + " of " + b + " to " + q + " and " + rest + " mode " + mode;
        CHECKS.same(what, r.divide(0, 1, 2, 3, mode), due[0]);
        CHECKS.same("quotient: " + what, r.value(2), due[1]);
        CHECKS.same("remainder: " + what, r.value(3), due[2]);
        CHECKS.same("size errors: " + what, r.sizeErrors(), due[0] == 0 ? 0 : 1);
    }

    private static void divides() {
        CHECKS.sentence("Stores the value of field a divided by that of field b as a result with a mode into field q, and "
            + "then the REMAINDER as a result with mode 0 into field r.");
        divides("99", 17, "9", 5, "9", "9", 0, 0, 3, 2);
        divides("99", 18, "9", 5, "9", "9", 1, 0, 4, 3);
        divides("S99", -18, "9", 5, "S9", "S9", 5, 0, -3, -3);
        divides("S99", -18, "9", 5, "S9", "S9", 6, 0, -4, -3);
        divides("S99", -18, "9", 5, "9", "9", 0, 0, 3, 3);
        divides("9V99", 599, "9", 4, "9", "9", 4, 0, 2, 1);
        divides("S9V99", -599, "9", 4, "S9", "S9V9", 4, 0, -2, -19);
        divides("9V99", 599, "9", 4, "9", "9V9(4)", 7, 1, 1, 1);
        divides("99", 12, "9", 4, "9", "9V9(4)", 7, 0, 3, 0);
        PicturedRecord edited = Records.zoned("99", 17, "9", 5, "Z9.9", 0, "--9", 0);
        CHECKS.same("q and r edited", edited.divide(0, 1, 2, 3, 0), 0);
        CHECKS.same("their texts", Records.text(edited, 3, 7), " 3.4  0");
        PicturedRecord unsound = Records.zoned("99", 17, "9", 5, "9", 0, "9", 0);
        Records.pokeText(unsound, 3, "xx");
        CHECKS.same("q and r not sound", unsound.divide(0, 1, 2, 3, 0), 0);
        CHECKS.same("their digits", Records.text(unsound, 3, 2), "32");
    }

    private static void remainders() {
        CHECKS.sentence("The remainder is a - b * c, where c is a / b rounded towards zero to as many decimals as the SCALE "
            + "of q says, whatever the mode is.");
        long[] quotients = {3, 4, 4, 4, 4, 4, 3};
        for (int mode = 0; mode <= 6; mode++) {
            divides("99", 19, "9", 5, "9", "9", mode, 0, quotients[mode], 4);
        }
        long[] negative = {-3, -4, -4, -4, -4, -3, -4};
        for (int mode = 0; mode <= 6; mode++) {
            divides("S99", -19, "9", 5, "S9", "S9", mode, 0, negative[mode], -4);
            divides("99", 19, "S9", -5, "S9", "S9", mode, 0, negative[mode], 4);
        }
        divides("99", 20, "9", 3, "9", "9V9(4)", 0, 0, 6, 20000);
        divides("99", 20, "9", 3, "9V9", "9V9(4)", 0, 0, 66, 2000);
        divides("99", 20, "9", 3, "9V99", "9V9(4)", 0, 0, 666, 200);
        divides("99", 20, "9", 3, "9V9(3)", "9V9(4)", 0, 0, 6666, 20);
        divides("99", 20, "9", 3, "9V9(4)", "9V9(4)", 4, 0, 66667, 2);
        divides("9", 3, "9", 7, "9", "9", 4, 0, 1, 3);
        divides("9", 0, "9", 7, "9", "9", 4, 0, 0, 0);
        divides("9(9)", 999999998, "9(9)", 999999999, "9", "9(9)", 4, 0, 1, 999999998);
        divides("9(9)", 999999999, "V9(4)", 10, "9", "9", 0, 1, 1, 1);
        divides("V9(4)", 9999, "9(9)", 999999999, "9V9(4)", "V9(4)", 0, 0, 0, 9999);
        divides("9V9(4)", 1, "9V9(4)", 30000, "9V9(4)", "9V9(4)", 4, 0, 1, 1);
    }

    private static void divideErrorsInQ() {
        CHECKS.sentence("1 if there is a size error in q (b being zero, too), and then r stays as it is and is not looked at");
        divides("99", 50, "9", 5, "9", "9", 0, 1, 1, 1);
        divides("99", 49, "9", 5, "9", "9", 0, 0, 9, 4);
        divides("99", 49, "9", 5, "9", "9", 1, 1, 1, 1);
        divides("99", 17, "9", 5, "9", "9", 7, 1, 1, 1);
        for (int mode = 0; mode <= 7; mode++) {
            divides("99", 17, "9", 0, "9", "9", mode, 1, 1, 1);
            divides("99", 0, "9", 0, "9", "9", mode, 1, 1, 1);
        }
        divides("99", 99, "9", 1, "9", "V9", 0, 1, 1, 1);
        PicturedRecord r = Records.zoned("99", 99, "9", 0, "9", 1, "V9", 0);
        r.poke(4, 'x');
        CHECKS.same("r not sound", r.divide(0, 1, 2, 3, 0), 1);
        CHECKS.same("its byte", r.peek(4), 'x');
        CHECKS.same("r is counted in no error", r.sizeErrors(), 1);
        CHECKS.same("nor in data errors", r.dataErrors(), 0);
    }

    private static void divideErrorsInR() {
        CHECKS.sentence("2 if q was stored and there is a size error in r");
        divides("99", 71, "99", 30, "9", "9", 0, 2, 2, 1);
        divides("99", 71, "99", 30, "9", "99", 0, 0, 2, 11);
        divides("99", 69, "99", 30, "9", "9", 0, 0, 2, 9);
        divides("99", 70, "99", 30, "9", "9", 0, 2, 2, 1);
        divides("9", 7, "9", 4, "9", "V9(4)", 0, 2, 1, 1);
        divides("S99", -71, "99", 30, "S9", "9", 5, 2, -2, 1);
        divides("9V9", 79, "9", 4, "9", "V9", 0, 2, 1, 1);
        PicturedRecord r = Records.zoned("99", 71, "99", 30, "9", 1, "Z", 5);
        CHECKS.same("r edited and too small", r.divide(0, 1, 2, 3, 0), 2);
        CHECKS.same("it stays", r.value(3), 5);
    }

    private static void dividesRefused() {
        CHECKS.sentence("It answers -1 if mode is not 0 .. 7, one of the four fields is not there, or a or b is edited");
        PicturedRecord r = mixed();
        for (int mode : NO_MODES) {
            CHECKS.same("mode " + mode, r.divide(0, 0, 0, 0, mode), -1);
            CHECKS.same("mode " + mode + ", by zero", r.divide(0, 3, 0, 0, mode), -1);
        }
        for (int f : NOT_THERE) {
            CHECKS.same("a " + f, r.divide(f, 0, 0, 0, 0), -1);
            CHECKS.same("b " + f, r.divide(0, f, 0, 0, 0), -1);
            CHECKS.same("q " + f, r.divide(0, 0, f, 0, 0), -1);
            CHECKS.same("r " + f, r.divide(0, 0, 0, f, 0), -1);
            CHECKS.same("r " + f + ", by zero", r.divide(0, 3, 0, f, 0), -1);
            CHECKS.same("r " + f + ", a not sound", r.divide(2, 0, 0, f, 0), -1);
        }
        CHECKS.same("a edited", r.divide(1, 0, 0, 0, 0), -1);
        CHECKS.same("b edited", r.divide(0, 1, 0, 0, 0), -1);
        CHECKS.same("b edited, a not sound", r.divide(2, 1, 0, 0, 0), -1);
        CHECKS.same("a edited, by zero", r.divide(1, 3, 0, 0, 0), -1);
        for (int mode = 0; mode <= 7; mode++) {
            CHECKS.same("mode " + mode, r.divide(3, 0, 3, 3, mode), 0);
        }
        CHECKS.same("errors", r.sizeErrors() + r.dataErrors(), 0);
    }

    private static void dividesNotSound() {
        CHECKS.sentence("else -2 if a or b is not SOUND.");
        PicturedRecord r = mixed();
        String before = Records.allBytes(r);
        CHECKS.same("a not sound", r.divide(2, 0, 0, 0, 0), -2);
        CHECKS.same("b not sound", r.divide(0, 2, 0, 0, 0), -2);
        CHECKS.same("both not sound", r.divide(2, 2, 2, 2, 0), -2);
        CHECKS.same("a not sound, b zero", r.divide(2, 3, 0, 0, 0), -2);
        CHECKS.same("bytes", Records.allBytes(r), before);
        CHECKS.same("size errors", r.sizeErrors(), 0);
    }

    private static void addsTo() {
        CHECKS.sentence("For each field k from first to last that is not edited, in order: stores its value plus that of "
            + "field a as a result with a mode into field k.");
        PicturedRecord r = Records.zoned("99V9", 25, "99", 10, "99V9", 100, "Z9", 7, "S99", -10, "99", 50);
        CHECKS.same("addTo 1 .. 4", r.addTo(0, 1, 4, 1), 0);
        CHECKS.same("a", r.value(0), 25);
        CHECKS.same("the first", r.value(1), 13);
        CHECKS.same("the second", r.value(2), 125);
        CHECKS.same("the edited one", r.value(3), 7);
        CHECKS.same("the last", r.value(4), -8);
        CHECKS.same("the one behind", r.value(5), 50);
        CHECKS.same("addTo to one alone", r.addTo(0, 5, 5, 0), 0);
        CHECKS.same("it", r.value(5), 52);
        CHECKS.same("addTo to all", r.addTo(0, 0, 5, 0), 0);
        CHECKS.same("a itself", r.value(0), 50);
        CHECKS.same("with what a was", r.value(1), 15);
        PicturedRecord negative = Records.zoned("S9", -7, "9", 3);
        CHECKS.same("a negative sum without sign", negative.addTo(0, 1, 1, 0), 0);
        CHECKS.same("it", negative.value(1), 4);
        CHECKS.same("addTo to an edited one alone", r.addTo(0, 3, 3, 7), 0);
        CHECKS.same("it", r.value(3), 7);
    }

    private static void addToErrors() {
        CHECKS.sentence("Answers the sum of 2 to the k for those in which there was a size error.");
        for (int k = 0; k < 12; k++) {
            PicturedRecord r = new PicturedRecord();
            for (int i = 0; i < 12; i++) {
                Records.make(r, "9", 0, i);
                r.put(i, i == k ? 9 : 1, 0);
            }
            int a = k == 0 ? 1 : 0;
            CHECKS.same("an error in " + k + " alone", r.addTo(a, 0, 11, 0), 1 << k);
            CHECKS.same("it stays", r.value(k), 9);
            CHECKS.same("another one", r.value(k == 11 ? 10 : 11), 2);
            CHECKS.same("size errors", r.sizeErrors(), 1);
            CHECKS.same("errors in all", r.addTo(k, 0, 11, 0), 4095);
            CHECKS.same("size errors", r.sizeErrors(), 13);
        }
        PicturedRecord halves = Records.zoned("V9", 5, "9", 1, "9V9", 10, "9", 2, "Z", 9);
        CHECKS.same("errors in mode 7", halves.addTo(0, 1, 4, 7), 2 + 8);
        CHECKS.same("the one without", halves.value(2), 15);
    }

    private static void addToRefused() {
        CHECKS.sentence("It answers -1 if mode is not 0 .. 7, field a, first or last is not there, first is greater than "
            + "last, or a is edited");
        PicturedRecord r = mixed();
        for (int mode : NO_MODES) {
            CHECKS.same("mode " + mode, r.addTo(0, 0, 0, mode), -1);
        }
        for (int f : NOT_THERE) {
            CHECKS.same("a " + f, r.addTo(f, 0, 3, 0), -1);
            CHECKS.same("first " + f, r.addTo(0, f, 3, 0), -1);
            CHECKS.same("last " + f, r.addTo(0, 0, f, 0), -1);
            CHECKS.same("first and last " + f, r.addTo(0, f, f, 0), -1);
        }
        CHECKS.same("first greater than last", r.addTo(0, 1, 0, 0), -1);
        CHECKS.same("first much greater than last", r.addTo(2, 3, 0, 0), -1);
        CHECKS.same("a edited", r.addTo(1, 0, 0, 0), -1);
        CHECKS.same("a edited, one not sound", r.addTo(1, 2, 2, 0), -1);
        CHECKS.same("a edited, all edited", r.addTo(1, 1, 1, 0), -1);
        CHECKS.same("errors", r.sizeErrors() + r.dataErrors(), 0);
        for (int mode = 0; mode <= 7; mode++) {
            CHECKS.same("mode " + mode, r.addTo(3, 3, 3, mode), 0);
        }
    }

    private static void addToNotSound() {
        CHECKS.sentence("else -2 if a or one of those fields k is not SOUND.");
        PicturedRecord r = mixed();
        String before = Records.allBytes(r);
        CHECKS.same("a not sound", r.addTo(2, 0, 0, 0), -2);
        CHECKS.same("a not sound, all edited", r.addTo(2, 1, 1, 0), -2);
        CHECKS.same("the last not sound", r.addTo(0, 0, 2, 0), -2);
        CHECKS.same("the first not sound", r.addTo(0, 2, 3, 0), -2);
        CHECKS.same("one alone not sound", r.addTo(0, 2, 2, 0), -2);
        CHECKS.same("bytes", Records.allBytes(r), before);
        CHECKS.same("one not sound beside them", r.addTo(3, 0, 1, 0), 0);
        r.poke(3, 'x');
        CHECKS.same("an edited one not sound among them", r.addTo(3, 0, 1, 0), 0);
        CHECKS.same("an edited one not sound alone", r.addTo(3, 1, 1, 0), 0);
        CHECKS.same("data errors", r.dataErrors(), 5);
    }

    private static void totals() {
        CHECKS.sentence("Stores the sum of the values of the fields from first to last that are not edited (0 if all are) as "
            + "a result with a mode into field to: 0");
        PicturedRecord r = Records.zoned("99", 12, "S99V9", -45, "Z9", 7, "9V9(4)", 12345, "S9(5)V9(4)", 1, "--9.9", 0);
        CHECKS.same("total 0 .. 3", r.total(0, 3, 4, 0), 0);
        CHECKS.same("value", r.value(4), 120000 - 45000 + 12345);
        CHECKS.same("total 1 .. 2", r.total(1, 2, 4, 0), 0);
        CHECKS.same("value", r.value(4), -45000);
        CHECKS.same("total 3 .. 3", r.total(3, 3, 4, 0), 0);
        CHECKS.same("value", r.value(4), 12345);
        CHECKS.same("total to an edited field", r.total(0, 1, 5, 0), 0);
        CHECKS.same("its text", Records.text(r, 21, 5), "  7.5");
        CHECKS.same("total of an edited one alone", r.total(2, 2, 4, 7), 0);
        CHECKS.same("value", r.value(4), 0);
        long[] due = {7, 8, 8, 7, 8, 8, 7};
        for (int mode = 0; mode <= 6; mode++) {
            CHECKS.same("total in mode " + mode, r.total(0, 1, 0, mode), 0);
            CHECKS.same("value in mode " + mode, r.value(0), due[mode]);
            r.put(0, 12, 0);
        }
        PicturedRecord negative = Records.zoned("S9", -5, "9", 0);
        CHECKS.same("a negative sum without sign", negative.total(0, 0, 1, 0), 0);
        CHECKS.same("value", negative.value(1), 5);
        PicturedRecord unsound = mixed();
        CHECKS.same("total to one not sound", unsound.total(0, 1, 2, 0), 0);
        CHECKS.same("value", unsound.value(2), 12);
    }

    private static void totalErrors() {
        CHECKS.sentence("1 if there is a size error.");
        PicturedRecord r = Records.zoned("9", 5, "9", 4, "9", 1, "S9", -1, "9", 3, "V9", 5);
        CHECKS.same("just not too large", r.total(0, 1, 4, 0), 0);
        CHECKS.same("too large", r.total(0, 2, 4, 0), 1);
        CHECKS.same("it stays", r.value(4), 9);
        CHECKS.same("the whole sum counts alone", r.total(0, 3, 4, 0), 0);
        CHECKS.same("mode 7", r.total(5, 5, 4, 7), 1);
        CHECKS.same("size errors", r.sizeErrors(), 2);
        PicturedRecord most = new PicturedRecord();
        for (int k = 0; k < 12; k++) {
            Records.make(most, "9(9)", Records.BINARY, 4 * k);
            most.put(k, 999999999, 0);
        }
        CHECKS.same("twelve of the largest", most.total(0, 11, 0, 0), 1);
        CHECKS.same("the target stays", most.value(0), 999999999);
    }

    private static void totalRefused() {
        CHECKS.sentence("It answers -1 if mode is not 0 .. 7, field first, last or to is not there, or first is greater than "
            + "last");
        PicturedRecord r = mixed();
        for (int mode : NO_MODES) {
            CHECKS.same("mode " + mode, r.total(0, 0, 0, mode), -1);
        }
        for (int f : NOT_THERE) {
            CHECKS.same("first " + f, r.total(f, 3, 0, 0), -1);
            CHECKS.same("last " + f, r.total(0, f, 0, 0), -1);
            CHECKS.same("first and last " + f, r.total(f, f, 0, 0), -1);
            CHECKS.same("to " + f, r.total(0, 0, f, 0), -1);
            CHECKS.same("to " + f + ", one not sound", r.total(0, 3, f, 0), -1);
        }
        CHECKS.same("first greater than last", r.total(1, 0, 0, 0), -1);
        CHECKS.same("first much greater than last", r.total(3, 0, 0, 0), -1);
        CHECKS.same("errors", r.sizeErrors() + r.dataErrors(), 0);
        for (int mode = 0; mode <= 7; mode++) {
            CHECKS.same("mode " + mode, r.total(3, 3, 3, mode), 0);
        }
    }

    private static void totalNotSound() {
        CHECKS.sentence("else -2 if one of those that are added is not SOUND.");
        PicturedRecord r = mixed();
        String before = Records.allBytes(r);
        CHECKS.same("the first not sound", r.total(2, 3, 0, 0), -2);
        CHECKS.same("the last not sound", r.total(0, 2, 0, 0), -2);
        CHECKS.same("one alone not sound", r.total(2, 2, 2, 0), -2);
        CHECKS.same("bytes", Records.allBytes(r), before);
        CHECKS.same("data errors", r.dataErrors(), 3);
        r.poke(3, 'x');
        CHECKS.same("an edited one not sound among them", r.total(0, 1, 3, 0), 1);
        CHECKS.same("an edited one not sound alone", r.total(1, 1, 3, 0), 0);
        CHECKS.same("data errors", r.dataErrors(), 3);
    }
}
