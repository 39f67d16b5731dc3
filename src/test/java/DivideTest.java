/** Promise 14: divide, with the remainder. */
public final class DivideTest {
    private static final Checks CHECKS = new Checks();

    public static void main(String[] args) {
        quotientsAndRemainders();
        remaindersWhateverTheMode();
        remaindersAreCut();
        errorsInTheQuotient();
        errorsInTheRemainder();
        largestNumbers();
        sameAndOverlappingFields();
        refusals();
        notSound();
        CHECKS.finish();
    }

    private static void gives(String p, int x, String q, int y, String to, String rest, int mode, long... due) {
        PicturedRecord r = Records.zoned(p, x, q, y, to, 1, rest, 1);
        String what = "divide " + p + " " + x + " by " + q + " " + y + " to " + to + " and " + rest + " mode " + mode;
        CHECKS.same(what, r.divide(0, 1, 2, 3, mode), due[0]);
        CHECKS.same(what + ": quotient", r.value(2), due[1]);
        CHECKS.same(what + ": remainder", r.value(3), due[2]);
        CHECKS.same(what + ": size errors", r.sizeErrors(), due[0] == 0 ? 0 : 1);
        CHECKS.same(what + ": data errors", r.dataErrors(), 0);
    }

    private static void quotientsAndRemainders() {
        gives("99", 17, "9", 5, "9", "9", 0, 0, 3, 2);
        gives("S99", -17, "9", 5, "S9", "S9", 0, 0, -3, -2);
        gives("99", 17, "S9", -5, "S9", "S9", 0, 0, -3, 2);
        gives("S99", -17, "S9", -5, "S9", "S9", 0, 0, 3, -2);
        gives("99", 17, "9", 5, "9V9", "9", 0, 0, 34, 0);
        gives("99", 10, "9", 3, "9V99", "V99", 0, 0, 333, 1);
        gives("9V9", 75, "9V99", 200, "9", "9V9(4)", 0, 0, 3, 15000);
        gives("9V9(4)", 12345, "9", 7, "9V9(4)", "V9(4)", 0, 0, 1763, 4);
        gives("9", 0, "9", 7, "9", "9", 0, 0, 0, 0);
        gives("9", 3, "9", 7, "9", "9", 0, 0, 0, 3);
    }

    private static void remaindersWhateverTheMode() {
        long[] quotients = {3, 3, 3, 3, 4, 4, 3};
        for (int mode = 0; mode <= 6; mode++) {
            gives("99", 17, "9", 5, "9", "9", mode, 0, quotients[mode], 2);
        }
        long[] negative = {-3, -4, -4, -4, -4, -3, -4};
        for (int mode = 0; mode <= 6; mode++) {
            gives("S99", -18, "9", 5, "S9", "S9", mode, 0, negative[mode], -3);
        }
        gives("99", 15, "9", 5, "9", "9", 7, 0, 3, 0);
        gives("99", 17, "9", 5, "9V9", "9", 7, 0, 34, 0);
    }

    private static void remaindersAreCut() {
        gives("9V9", 75, "9", 4, "9", "9", 4, 0, 2, 3);
        gives("S9V9", -79, "9", 4, "S9", "S9", 1, 0, -2, -3);
        gives("S9V9", -79, "9", 4, "S9", "9", 1, 0, -2, 3);
        gives("9V9(4)", 10000, "9V9(4)", 30000, "V9(4)", "V9(4)", 0, 0, 3333, 1);
        gives("9V9(4)", 1, "V9(4)", 3, "9V9(4)", "9V9(4)", 0, 0, 3333, 0);
        gives("9", 1, "V9(4)", 7, "9(5)V9(4)", "V9(4)", 0, 0, 14285714, 0);
        gives("V9(4)", 5, "V9(4)", 7, "9(5)V9(4)", "V9(4)", 0, 0, 7142, 0);
    }

    private static void errorsInTheQuotient() {
        gives("99", 50, "9", 5, "9", "9", 0, 1, 1, 1);
        gives("9", 5, "9", 0, "9", "9", 0, 1, 1, 1);
        gives("9", 0, "9", 0, "9", "9", 4, 1, 1, 1);
        gives("99", 17, "9", 5, "9", "9", 7, 1, 1, 1);
        gives("99", 96, "99", 10, "9", "9", 1, 1, 1, 1);
        gives("99", 96, "99", 10, "9", "9", 0, 0, 9, 6);
    }

    private static void errorsInTheRemainder() {
        gives("99", 71, "99", 30, "9", "9", 0, 2, 2, 1);
        gives("99", 71, "99", 30, "9", "99", 0, 0, 2, 11);
        gives("99", 71, "99", 30, "9", "V9(4)", 0, 2, 2, 1);
        gives("9", 7, "9", 4, "9", "V9(4)", 6, 2, 1, 1);
    }

    private static void largestNumbers() {
        int most = 999999999;
        gives("9(9)", most, "9", 1, "9(9)", "9(9)", 0, 0, most, 0);
        gives("9(9)", most, "9(9)", most - 1, "9(5)V9(4)", "9(9)", 0, 0, 10000, 1);
        gives("9(9)", most - 1, "9(9)", most, "9(5)V9(4)", "9(9)", 0, 0, 9999, 99998);
        gives("9(9)", most - 1, "9(9)", most, "9", "9(9)", 0, 0, 0, most - 1);
        gives("S9(9)", -most, "9(5)V9(4)", most, "S9(5)V9(4)", "S9(9)", 0, 0, -100000000, 0);
        gives("9(5)V9(4)", most, "9(9)", most, "9(9)", "9(5)V9(4)", 0, 0, 0, most);
        gives("9(5)V9(4)", most, "9(9)", most, "9(9)", "9(9)", 4, 0, 1, 99999);
        gives("9(9)", most, "9(5)V9(4)", most - 2, "9(5)V9(4)", "V9(4)", 0, 2, 100000000, 1);
        gives("9(9)", most, "9(5)V9(4)", most - 2, "9(5)V9(4)", "9V9(4)", 0, 0, 100000000, 20000);
    }

    private static void sameAndOverlappingFields() {
        PicturedRecord r = Records.zoned("99", 17, "9", 5, "9", 0);
        CHECKS.same("q and r the same", r.divide(0, 1, 2, 2, 0), 0);
        CHECKS.same("the remainder stands", r.value(2), 2);
        CHECKS.same("q is a, r is b", r.divide(0, 1, 0, 1, 0), 0);
        CHECKS.same("quotient over a", r.value(0), 3);
        CHECKS.same("remainder over b", r.value(1), 2);
        PicturedRecord o = new PicturedRecord();
        Records.make(o, "9(3)", 0, 0);
        Records.make(o, "9(3)", 0, 3);
        Records.make(o, "9(3)", 0, 2);
        Records.make(o, "9(3)", 0, 4);
        Records.pokeText(o, 0, "987045");
        CHECKS.same("q and r over a, b and each other", o.divide(0, 1, 2, 3, 0), 0);
        CHECKS.same("the later store stands", Records.text(o, 0, 7), "9802042");
        PicturedRecord e = Records.zoned("99", 17, "9", 5, "Z9.9", 0, "--9", 0);
        CHECKS.same("q and r edited", e.divide(0, 1, 2, 3, 0), 0);
        CHECKS.same("their texts", Records.text(e, 3, 7), " 3.4  0");
    }

    private static void refusals() {
        PicturedRecord r = Records.zoned("9", 5, "Z", 3, "9", 0);
        r.poke(0, 1);
        String before = Records.allBytes(r);
        int[] modes = {-1, 8, Integer.MIN_VALUE, Integer.MAX_VALUE};
        for (int mode : modes) {
            CHECKS.same("mode " + mode, r.divide(0, 0, 0, 0, mode), -1);
        }
        int[] others = {-1, 3, 12, Integer.MIN_VALUE, Integer.MAX_VALUE};
        for (int f : others) {
            CHECKS.same("a is " + f, r.divide(f, 0, 2, 2, 0), -1);
            CHECKS.same("b is " + f, r.divide(0, f, 2, 2, 0), -1);
            CHECKS.same("q is " + f, r.divide(0, 0, f, 2, 0), -1);
            CHECKS.same("r is " + f, r.divide(0, 0, 2, f, 0), -1);
            CHECKS.same("r is " + f + ", b zero", r.divide(2, 2, 2, f, 0), -1);
        }
        CHECKS.same("a edited", r.divide(1, 2, 2, 2, 0), -1);
        CHECKS.same("b edited", r.divide(2, 1, 2, 2, 0), -1);
        CHECKS.same("b edited, a not sound", r.divide(0, 1, 2, 2, 0), -1);
        CHECKS.same("bytes", Records.allBytes(r), before);
        CHECKS.same("errors", r.dataErrors() + r.sizeErrors(), 0);
    }

    private static void notSound() {
        PicturedRecord r = Records.zoned("9", 5, "9", 0, "9", 4);
        r.poke(0, 1);
        String before = Records.allBytes(r);
        CHECKS.same("a not sound", r.divide(0, 2, 2, 2, 0), -2);
        CHECKS.same("b not sound", r.divide(2, 0, 2, 2, 0), -2);
        CHECKS.same("a not sound, b zero", r.divide(0, 1, 2, 2, 0), -2);
        CHECKS.same("bytes", Records.allBytes(r), before);
        CHECKS.same("data errors", r.dataErrors(), 3);
        CHECKS.same("size errors", r.sizeErrors(), 0);
        CHECKS.same("q and r not sound", r.divide(2, 2, 0, 0, 0), 0);
        CHECKS.same("the remainder stands", r.value(0), 0);
    }
}
