/** Promise 13: compute, with the modes of rounding and the size errors. */
public final class ComputeTest {
    private static final Checks CHECKS = new Checks();

    public static void main(String[] args) {
        operations();
        modes();
        modesWhenWhole();
        sizes();
        largestNumbers();
        divisions();
        signsAreDropped();
        refusals();
        notSound();
        editedTargetAndOverlaps();
        CHECKS.finish();
    }

    /** A due of null asks for a size error and a target that stays as it is. */
    private static void gives(int op, String p, int x, String q, int y, String to, int mode, Integer due) {
        PicturedRecord r = Records.zoned(p, x, q, y, to, 1);
        String what = "op " + op + " of " + p + " " + x + " and " + q + " " + y + " to " + to + " mode " + mode;
        CHECKS.same(what, r.compute(op, 0, 1, 2, mode), due == null ? 1 : 0);
        CHECKS.same(what + ": value", r.value(2), due == null ? 1 : due);
        CHECKS.same(what + ": size errors", r.sizeErrors(), due == null ? 1 : 0);
        CHECKS.same(what + ": data errors", r.dataErrors(), 0);
        CHECKS.same(what + ": left", r.value(0), x);
        CHECKS.same(what + ": right", r.value(1), y);
    }

    private static void operations() {
        gives(0, "S9(3)", 123, "S9(3)", -23, "S9(3)", 0, 100);
        gives(0, "9V9", 15, "9V99", 225, "9V999", 0, 3750);
        gives(1, "S9(3)", 123, "S9(3)", -23, "S9(3)", 0, 146);
        gives(1, "9", 2, "V99", 25, "9V99", 0, 175);
        gives(1, "9", 2, "9", 5, "S9", 0, -3);
        gives(2, "S9V9", -15, "9V9", 15, "S9V99", 0, -225);
        gives(2, "99", 12, "99", 12, "9(3)", 0, 144);
        gives(3, "99", 12, "9", 4, "9", 0, 3);
        gives(3, "9", 1, "S9", -8, "S9V9(3)", 0, -125);
        gives(3, "9V99", 100, "9(3)", 100, "9V99", 7, 1);
        gives(3, "9(3)", 1, "V99", 4, "9(3)", 7, 25);
    }

    private static void modes() {
        int[][] due = {
            // units of tenths, then what modes 0 .. 6 make of them
            {25, 2, 3, 2, 2, 3, 3, 2},
            {-25, -2, -3, -2, -2, -3, -2, -3},
            {35, 3, 4, 4, 3, 4, 4, 3},
            {-35, -3, -4, -4, -3, -4, -3, -4},
            {24, 2, 2, 2, 2, 3, 3, 2},
            {-24, -2, -2, -2, -2, -3, -2, -3},
            {26, 2, 3, 3, 3, 3, 3, 2},
            {-26, -2, -3, -3, -3, -3, -2, -3},
            {5, 0, 1, 0, 0, 1, 1, 0},
            {-5, 0, -1, 0, 0, -1, 0, -1},
            {1, 0, 0, 0, 0, 1, 1, 0},
            {-1, 0, 0, 0, 0, -1, 0, -1},
        };
        for (int[] row : due) {
            for (int mode = 0; mode <= 6; mode++) {
                gives(0, "S9V9", row[0], "9", 0, "S9", mode, row[mode + 1]);
                gives(3, "S9(3)", row[0], "99", 10, "S9", mode, row[mode + 1]);
                gives(3, "S9(3)", -row[0], "S99", -10, "S9", mode, row[mode + 1]);
                gives(2, "S9(3)", row[0], "V9", 1, "S9", mode, row[mode + 1]);
            }
            gives(0, "S9V9", row[0], "9", 0, "S9", 7, null);
            gives(3, "S9(3)", row[0], "99", 10, "S9", 7, null);
        }
    }

    private static void modesWhenWhole() {
        for (int mode = 0; mode <= 7; mode++) {
            gives(0, "S9V9", 30, "9", 0, "S9", mode, 3);
            gives(0, "S9V9", -30, "9", 0, "S9", mode, -3);
            gives(3, "S99", -12, "S9", -4, "S9", mode, 3);
            gives(1, "9V9", 30, "9", 3, "S9", mode, 0);
        }
    }

    private static void sizes() {
        gives(0, "99", 9, "9", 1, "9", 0, null);
        gives(0, "99", 9, "9", 0, "9", 0, 9);
        gives(1, "S99", -9, "9", 1, "S9", 0, null);
        gives(1, "S99", -9, "9", 1, "9", 0, null);
        gives(0, "9V9", 95, "9", 0, "9", 0, 9);
        gives(0, "9V9", 95, "9", 0, "9", 1, null);
        gives(0, "9V9", 95, "9", 0, "9", 3, 9);
        gives(0, "S9V9", -91, "9", 0, "S9", 6, null);
        gives(0, "S9V9", -91, "9", 0, "S9", 5, -9);
        gives(0, "9", 1, "9", 0, "V99", 0, null);
        gives(2, "9", 3, "9", 4, "9", 0, null);
        int limit = 10;
        for (int n = 1; n <= 8; n++) {
            gives(0, "S9(9)", limit - 1, "9", 0, "S9(" + n + ")", 0, limit - 1);
            gives(0, "S9(9)", limit - 1, "9", 1, "S9(" + n + ")", 0, null);
            gives(0, "S9(9)", 1 - limit, "9", 0, "S9(" + n + ")", 0, 1 - limit);
            gives(1, "S9(9)", 1 - limit, "9", 1, "S9(" + n + ")", 0, null);
            limit *= 10;
        }
        gives(0, "9(9)", 999999999, "9", 0, "9(9)", 0, 999999999);
        gives(0, "9(9)", 999999999, "9", 1, "9(9)", 0, null);
    }

    private static void largestNumbers() {
        int most = 999999999;
        gives(2, "9(9)", most, "9(9)", most, "9(9)", 0, null);
        gives(2, "9(9)", most, "S9(9)", -most, "S9(5)V9(4)", 0, null);
        gives(2, "9(9)", most, "S9(9)", -most, "S9(5)V9(4)", 7, null);
        gives(2, "9(9)", 100000, "9(9)", 100000, "9(5)V9(4)", 4, null);
        gives(2, "9(9)", 1000000, "9(9)", 1000000, "9(5)V9(4)", 4, null);
        gives(2, "9(5)V9(4)", most, "9(5)V9(4)", most, "9(9)", 0, null);
        gives(2, "9(5)V9(4)", 99999, "9(5)V9(4)", most, "9(9)", 0, 999989);
        gives(2, "9(5)V9(4)", 99999, "9(5)V9(4)", most, "9(9)", 1, 999990);
        gives(2, "V9(4)", 9999, "V9(4)", 9999, "9V9(4)", 0, 9998);
        gives(2, "V9(4)", 9999, "V9(4)", 9999, "9", 1, 1);
        gives(2, "V9(4)", 5000, "9V9(4)", 10000, "9", 2, 0);
        gives(0, "9(9)", most, "9(9)", most, "9(9)", 0, null);
        gives(0, "9(9)", most, "9(5)V9(4)", 1, "9(9)", 0, most);
        gives(0, "9(9)", most, "9(5)V9(4)", 1, "9(9)", 4, null);
        gives(1, "9(9)", most, "9(5)V9(4)", 1, "9(9)", 4, most);
        gives(1, "9(9)", most, "9(5)V9(4)", 1, "9(9)", 0, most - 1);
        gives(3, "9(9)", most, "V9(4)", 1, "9(9)", 0, null);
        gives(3, "9(9)", most, "V9(4)", 1, "9(5)V9(4)", 0, null);
        gives(3, "9(5)V9(4)", 1, "9(9)", most, "9(9)", 0, 0);
        gives(3, "9(5)V9(4)", 1, "9(9)", most, "9(9)", 4, 1);
        gives(3, "9(9)", most, "9(9)", most - 1, "9V9(4)", 4, 10001);
        gives(3, "9(9)", 1, "9(9)", 2, "9", 1, 1);
        gives(3, "9(9)", 499999999, "9(9)", most, "9", 1, 0);
        gives(3, "9(9)", 500000000, "9(9)", most, "9", 3, 1);
    }

    private static void divisions() {
        for (int mode = 0; mode <= 7; mode++) {
            gives(3, "9", 5, "9", 0, "9", mode, null);
            gives(3, "9", 0, "9", 0, "9", mode, null);
            gives(3, "9", 0, "S9", -5, "9", mode, 0);
        }
        gives(3, "99", 10, "9", 3, "9V9(4)", 0, 33333);
        gives(3, "99", 10, "9", 3, "9V9(4)", 4, 33334);
        gives(3, "99", 10, "9", 3, "9V9(4)", 7, null);
        gives(3, "S99", -20, "9", 3, "S9V9(4)", 1, -66667);
        gives(3, "9V9(4)", 10000, "9", 3, "9", 1, 0);
    }

    private static void signsAreDropped() {
        gives(1, "9", 2, "9", 5, "9", 0, 3);
        gives(0, "S9V9", -25, "9", 0, "9", 5, 2);
        gives(0, "S9V9", -25, "9", 0, "9", 6, 3);
        PicturedRecord r = Records.zoned("S9V9", -4, "9", 0, "S9", -1);
        CHECKS.same("compute to 0", r.compute(0, 0, 1, 2, 0), 0);
        CHECKS.same("no sign at 0", r.peek(3), '0');
    }

    private static void refusals() {
        PicturedRecord r = Records.zoned("9", 5, "Z", 3, "9", 1);
        String before = Records.allBytes(r);
        int[] ops = {-1, 4, Integer.MIN_VALUE, Integer.MAX_VALUE};
        for (int op : ops) {
            CHECKS.same("op " + op, r.compute(op, 0, 0, 0, 0), -1);
        }
        int[] modes = {-1, 8, Integer.MIN_VALUE, Integer.MAX_VALUE};
        for (int mode : modes) {
            CHECKS.same("mode " + mode, r.compute(0, 0, 0, 0, mode), -1);
        }
        int[] others = {-1, 3, 12, Integer.MIN_VALUE, Integer.MAX_VALUE};
        r.poke(0, 1);
        for (int f : others) {
            CHECKS.same("a is " + f, r.compute(0, f, 0, 0, 0), -1);
            CHECKS.same("b is " + f, r.compute(0, 0, f, 0, 0), -1);
            CHECKS.same("to is " + f, r.compute(0, 0, 0, f, 0), -1);
        }
        CHECKS.same("a edited", r.compute(0, 1, 2, 2, 0), -1);
        CHECKS.same("b edited", r.compute(0, 2, 1, 2, 0), -1);
        CHECKS.same("b edited, a not sound", r.compute(0, 0, 1, 2, 0), -1);
        r.poke(0, '5');
        CHECKS.same("bytes behind refusals", Records.allBytes(r), before);
        CHECKS.same("data errors", r.dataErrors(), 0);
        CHECKS.same("size errors", r.sizeErrors(), 0);
    }

    private static void notSound() {
        PicturedRecord r = Records.zoned("9", 5, "9", 0, "9", 1);
        r.poke(0, 'x');
        String before = Records.allBytes(r);
        CHECKS.same("a not sound", r.compute(0, 0, 2, 2, 0), -2);
        CHECKS.same("b not sound", r.compute(0, 2, 0, 2, 0), -2);
        CHECKS.same("both not sound", r.compute(0, 0, 0, 2, 0), -2);
        CHECKS.same("a not sound, b zero", r.compute(3, 0, 1, 2, 0), -2);
        CHECKS.same("bytes", Records.allBytes(r), before);
        CHECKS.same("data errors", r.dataErrors(), 4);
        CHECKS.same("size errors", r.sizeErrors(), 0);
        CHECKS.same("to not sound", r.compute(0, 2, 2, 0, 0), 0);
        CHECKS.same("value then", r.value(0), 2);
    }

    private static void editedTargetAndOverlaps() {
        PicturedRecord r = Records.zoned("S9(3)", -125, "9", 2, "--9.9", 0);
        CHECKS.same("to edited", r.compute(3, 0, 1, 2, 1), 0);
        CHECKS.same("its text", Records.text(r, 4, 5), "-62.5");
        CHECKS.same("to edited, too large", r.compute(2, 0, 1, 2, 1), 1);
        CHECKS.same("its text stays", Records.text(r, 4, 5), "-62.5");
        PicturedRecord o = new PicturedRecord();
        Records.make(o, "9(4)", 0, 0);
        Records.make(o, "9(4)", 0, 2);
        Records.pokeText(o, 0, "112233");
        CHECKS.same("to overlaps a and b", o.compute(0, 0, 1, 1, 0), 0);
        CHECKS.same("bytes", Records.text(o, 0, 6), "113355");
        CHECKS.same("a, b and to the same", o.compute(2, 0, 0, 0, 0), 1);
        CHECKS.same("bytes at a size error", Records.text(o, 0, 6), "113355");
    }
}
