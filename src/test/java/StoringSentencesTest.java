/** One test for each sentence of 'Terms' on STORING, as a result with a mode and by MOVE. */
public final class StoringSentencesTest {
    private static final Checks CHECKS = new Checks();
    private static final int WAYS = 7;
    private static final int ADD_TO = 5;
    private static final int TARGET = 3;
    private static final int[] TENS = {1, 10, 100, 1000, 10000, 100000, 1000000, 10000000, 100000000, 1000000000};

    public static void main(String[] args) {
        towardsZero();
        nearestAway();
        nearestEven();
        nearestTowardsZero();
        awayFromZero();
        nextGreater();
        nextLesser();
        wholeOnesStay();
        wholeOnly();
        tooLarge();
        fieldStays();
        storedWithoutSign();
        movedTowardsZero();
        movedLowestDigits();
        movedSigns();
        movedWithoutSizeErrors();
        CHECKS.finish();
    }

    /** Field 0 is what is stored, then 0, 1, the target with 0 in it, and one for remainders. */
    private static PicturedRecord record(String picture, int units, String target) {
        return Records.zoned(picture, units, "9", 0, "9", 1, target, 0, "S9(5)V9(4)", 0);
    }

    /** Each way to store field 0 as a result into the target, which holds 0. */
    private static int store(PicturedRecord r, int way, int mode) {
        switch (way) {
            case 0:
                return r.compute(0, 0, 1, TARGET, mode);
            case 1:
                return r.compute(1, 0, 1, TARGET, mode);
            case 2:
                return r.compute(2, 0, 2, TARGET, mode);
            case 3:
                return r.compute(3, 0, 2, TARGET, mode);
            case 4:
                return r.divide(0, 2, TARGET, 4, mode);
            case ADD_TO:
                return r.addTo(0, TARGET, TARGET, mode);
            default:
                return r.total(0, 0, TARGET, mode);
        }
    }

    private static void gives(String picture, int units, String target, int mode, long due) {
        for (int way = 0; way < WAYS; way++) {
            PicturedRecord r = record(picture, units, target);
            String what = units + " of " + picture + " to " + target + " mode " + mode + " way " + way;
            CHECKS.same(what, store(r, way, mode), 0);
            CHECKS.same("value: " + what, r.value(TARGET), due);
            CHECKS.same("size errors: " + what, r.sizeErrors(), 0);
        }
    }

    private static void sizeError(String picture, int units, String target, int mode) {
        for (int way = 0; way < WAYS; way++) {
            PicturedRecord r = record(picture, units, target);
            String what = units + " of " + picture + " to " + target + " mode " + mode + " way " + way;
            CHECKS.same(what, store(r, way, mode), way == ADD_TO ? 1 << TARGET : 1);
            CHECKS.same("value: " + what, r.value(TARGET), 0);
            CHECKS.same("size errors: " + what, r.sizeErrors(), 1);
        }
    }

    private static void rounds(int mode, int[][] tenthsAndDue) {
        for (int[] row : tenthsAndDue) {
            gives("S9(3)V9", row[0], "S9(3)", mode, row[1]);
            gives("S9V9(4)", row[0], "S9V9(3)", mode, row[1]);
        }
    }

    /** The quotient as a result; where it never ends, no sum could show how it is rounded. */
    private static void quotient(int x, int y, int mode, long due) {
        PicturedRecord r = Records.zoned("S9(9)", x, "S9(9)", y, "S9V9", 0);
        CHECKS.same("compute " + x + " by " + y + " mode " + mode, r.compute(3, 0, 1, 2, mode), 0);
        CHECKS.same("value of " + x + " by " + y + " mode " + mode, r.value(2), due);
    }

    private static void towardsZero() {
        CHECKS.sentence("y is x times 10 to the t, rounded to a whole number: mode 0 towards zero");
        rounds(0, new int[][] {{1, 0}, {9, 0}, {-1, 0}, {-9, 0}, {15, 1}, {19, 1}, {-15, -1}, {-19, -1}, {25, 2}});
        quotient(2, 3, 0, 6);
        quotient(-2, 3, 0, -6);
        quotient(999999999, 1000000000 - 1, 0, 10);
    }

    private static void nearestAway() {
        CHECKS.sentence("1 to the nearest, of two equally near ones that away from zero");
        rounds(1, new int[][] {{4, 0}, {5, 1}, {6, 1}, {-4, 0}, {-5, -1}, {-6, -1}, {14, 1}, {15, 2}, {25, 3}});
        rounds(1, new int[][] {{-14, -1}, {-15, -2}, {-25, -3}, {-16, -2}});
        quotient(1, 3, 1, 3);
        quotient(2, 3, 1, 7);
        quotient(-1, 20, 1, -1);
        quotient(49999999, 999999999, 1, 0);
        quotient(50000000, 999999999, 1, 1);
    }

    private static void nearestEven() {
        CHECKS.sentence("2 to the nearest, of two the even one");
        rounds(2, new int[][] {{4, 0}, {5, 0}, {6, 1}, {14, 1}, {15, 2}, {16, 2}, {24, 2}, {25, 2}, {26, 3}, {35, 4}});
        rounds(2, new int[][] {{-4, 0}, {-5, 0}, {-6, -1}, {-15, -2}, {-25, -2}, {-26, -3}, {-35, -4}});
        quotient(1, 20, 2, 0);
        quotient(3, 20, 2, 2);
        quotient(-3, 20, 2, -2);
        quotient(50000000, 999999999, 2, 1);
    }

    private static void nearestTowardsZero() {
        CHECKS.sentence("3 to the nearest, of two that towards zero");
        rounds(3, new int[][] {{4, 0}, {5, 0}, {6, 1}, {15, 1}, {16, 2}, {25, 2}, {26, 3}, {-5, 0}, {-6, -1}});
        rounds(3, new int[][] {{-15, -1}, {-16, -2}, {-25, -2}, {-26, -3}});
        quotient(1, 20, 3, 0);
        quotient(3, 20, 3, 1);
        quotient(50000000, 999999999, 3, 1);
    }

    private static void awayFromZero() {
        CHECKS.sentence("4 away from zero");
        rounds(4, new int[][] {{1, 1}, {5, 1}, {9, 1}, {11, 2}, {-1, -1}, {-5, -1}, {-9, -1}, {-11, -2}});
        quotient(1, 999999999, 4, 1);
        quotient(-1, 999999999, 4, -1);
        quotient(1, 3, 4, 4);
    }

    private static void nextGreater() {
        CHECKS.sentence("5 to the next greater one");
        rounds(5, new int[][] {{1, 1}, {5, 1}, {9, 1}, {11, 2}, {-1, 0}, {-5, 0}, {-9, 0}, {-11, -1}, {-19, -1}});
        quotient(1, 999999999, 5, 1);
        quotient(-1, 999999999, 5, 0);
        quotient(-1, -999999999, 5, 1);
    }

    private static void nextLesser() {
        CHECKS.sentence("6 to the next lesser one");
        rounds(6, new int[][] {{1, 0}, {5, 0}, {9, 0}, {11, 1}, {-1, -1}, {-5, -1}, {-9, -1}, {-11, -2}, {-19, -2}});
        quotient(1, 999999999, 6, 0);
        quotient(-1, 999999999, 6, -1);
        quotient(1, -999999999, 6, -1);
    }

    private static void wholeOnesStay() {
        CHECKS.sentence("(whole numbers stay as they are)");
        for (int mode = 0; mode <= 7; mode++) {
            rounds(mode, new int[][] {{0, 0}, {10, 1}, {-10, -1}, {20, 2}, {-20, -2}, {990, 99}});
            gives("S9(3)", 7, "S9(3)V9(4)", mode, 70000);
            gives("S9(3)", -7, "S9(3)", mode, -7);
            quotient(1, 2, mode, 5);
            quotient(-3, 3, mode, -10);
        }
    }

    private static void wholeOnly() {
        CHECKS.sentence("7: there is a SIZE ERROR unless it is whole already.");
        for (int tenths : new int[] {1, 5, 9, 11, 15, 25, 9999, -1, -5, -9, -15}) {
            sizeError("S9(3)V9", tenths, "S9(3)", 7);
        }
        sizeError("SV9(4)", 1, "S9(3)", 7);
        sizeError("SV9(4)", 1, "S9V9(3)", 7);
        gives("SV9(4)", 1, "S9V9(4)", 7, 1);
        gives("S9(3)V9", -9990, "S9(3)", 7, -999);
        PicturedRecord r = Records.zoned("9", 1, "9", 3, "9V9(4)", 0);
        CHECKS.same("1 / 3 is never whole", r.compute(3, 0, 1, 2, 7), 1);
    }

    private static void tooLarge() {
        CHECKS.sentence("There is a SIZE ERROR, too, if the rounded number without sign is 10 to the n or more.");
        for (int n = 1; n <= 8; n++) {
            String target = "S9(" + n + ")";
            gives("S9(9)", TENS[n] - 1, target, 0, TENS[n] - 1);
            gives("S9(9)", 1 - TENS[n], target, 0, 1 - TENS[n]);
            sizeError("S9(9)", TENS[n], target, 0);
            sizeError("S9(9)", -TENS[n], target, 0);
            sizeError("S9(9)", -TENS[n], "9(" + n + ")", 0);
        }
        gives("S9(9)", 999999999, "S9(9)", 0, 999999999);
        sizeError("S9(9)", 999999999, "S9(5)V9(4)", 0);
        sizeError("S9(9)", 100000, "S9(5)V9(4)", 0);
        gives("S9(9)", 99999, "S9(5)V9(4)", 0, 999990000);
        gives("99V9", 995, "99", 0, 99);
        sizeError("99V9", 995, "99", 1);
        sizeError("99V9", 995, "99", 2);
        gives("99V9", 995, "99", 3, 99);
        sizeError("99V9", 991, "99", 4);
        sizeError("99V9", 991, "99", 5);
        gives("99V9", 999, "99", 6, 99);
        sizeError("S99V9", -991, "S99", 6);
        gives("S99V9", -999, "S99", 5, -99);
        PicturedRecord r = Records.zoned("9(9)", 999999999, "9(9)", 999999999, "9(9)", 1);
        CHECKS.same("the largest product", r.compute(2, 0, 1, 2, 0), 1);
        CHECKS.same("the largest sum", r.compute(0, 0, 1, 2, 0), 1);
        CHECKS.same("the target", r.value(2), 1);
        tooLargeForTheMachine();
    }

    /** Numbers that would fit if whoever computes them lost what is beyond 32 or 64 bits. */
    private static void tooLargeForTheMachine() {
        sizeError("9(9)", 429497, "V9(4)", 0);
        sizeError("S9(9)", -429497, "SV9(4)", 0);
        PicturedRecord square = Records.zoned("9(5)", 65536, "9(9)", 1);
        CHECKS.same("2 to the 32", square.compute(2, 0, 0, 1, 0), 1);
        for (int sign = -1; sign <= 1; sign += 2) {
            PicturedRecord r = Records.zoned("9(9)", 967901257, "S9(9)", sign * 798551062, "S9(5)V9(4)", 1);
            CHECKS.same("a product with units near 419 times 2 to the 64", r.compute(2, 0, 1, 2, 0), 1);
            CHECKS.same("its target", r.value(2), 1);
        }
        PicturedRecord sum = new PicturedRecord();
        int[] units = {999999999, 999999999, 999999999, 999999999, 294967301, 1};
        for (int k = 0; k < units.length; k++) {
            Records.make(sum, "9(9)", Records.BINARY, 4 * k);
            sum.put(k, units[k], 0);
        }
        CHECKS.same("2 to the 32 and 1 more", sum.total(0, 4, 5, 0), 1);
        CHECKS.same("its target", sum.value(5), 1);
    }

    private static void fieldStays() {
        CHECKS.sentence("At a size error the field stays as it is.");
        String[] pictures = {"S9(3)", "S9(3)", "S9(3)", "S9(3)", "--9.9"};
        int[] usages = {0, 1, 2, 3, 0};
        for (int i = 0; i < pictures.length; i++) {
            PicturedRecord r = Records.zoned("9(4)", 1000, "9", 0, "9", 1);
            Records.make(r, pictures[i], usages[i], 10);
            r.put(3, -45, 0);
            String before = Records.allBytes(r);
            r.compute(0, 0, 1, 3, 0);
            r.compute(3, 0, 1, 3, 4);
            r.divide(0, 2, 3, 3, 0);
            r.total(0, 2, 3, 0);
            CHECKS.same("bytes of " + pictures[i] + " usage " + usages[i], Records.allBytes(r), before);
            CHECKS.same("size errors", r.sizeErrors(), 4);
        }
        PicturedRecord unsound = Records.zoned("9(4)", 1000, "9", 0);
        Records.make(unsound, "S9(3)", 1, 10);
        Records.pokeHex(unsound, 10, "ab12");
        CHECKS.same("a size error in a field that is not sound", unsound.compute(0, 0, 1, 2, 0), 1);
        CHECKS.same("its bytes", Records.hex(unsound, 10, 2), "ab12");
    }

    private static void storedWithoutSign() {
        CHECKS.sentence("Else the rounded number is stored, without its sign if the field is not signed.");
        gives("S9(3)", -123, "9(3)", 0, 123);
        gives("S9(3)", -123, "S9(3)", 0, -123);
        gives("S9V9", -25, "9", 5, 2);
        gives("S9V9", -25, "9", 6, 3);
        String[] dueWithout = {"313233", "123f", null, "007b"};
        String[] dueWith = {"313273", "123d", "3132332d", "ff85"};
        for (int usage = 0; usage <= 3; usage++) {
            PicturedRecord r = Records.zoned("S9(3)", -123, "9", 0);
            Records.make(r, "S9(3)", usage, 10);
            r.compute(0, 0, 1, 2, 0);
            CHECKS.same("signed, usage " + usage, Records.hex(r, 10, r.size(2)), dueWith[usage]);
            if (usage != Records.SEPARATE) {
                Records.make(r, "9(3)", usage, 20);
                r.compute(0, 0, 1, 3, 0);
                CHECKS.same("not signed, usage " + usage, Records.hex(r, 20, r.size(3)), dueWithout[usage]);
            }
        }
        PicturedRecord zero = Records.zoned("S9V9", -4, "9", 0, "S9", -1);
        CHECKS.same("what is rounded to 0", zero.compute(0, 0, 1, 2, 0), 0);
        CHECKS.same("has no sign", zero.peek(3), '0');
    }

    private static void moves(String picture, int units, String target, long due) {
        PicturedRecord r = Records.zoned(picture, units, target, 0, target, 0);
        CHECKS.same("move of " + units + " from " + picture + " to " + target, r.move(0, 1), 0);
        CHECKS.same("value in " + target, r.value(1), due);
        CHECKS.same("put of the same", r.put(2, units, r.shape(0) / 16 % 16), true);
        CHECKS.same("value put in " + target, r.value(2), due);
        CHECKS.same("errors", r.sizeErrors() + r.dataErrors(), 0);
    }

    private static void movedTowardsZero() {
        CHECKS.sentence("By MOVE: y is x times 10 to the t rounded towards zero");
        moves("S9V9(4)", 9999, "S9", 0);
        moves("S9V9(4)", 19999, "S9", 1);
        moves("S9V9(4)", -9999, "S9", 0);
        moves("S9V9(4)", -19999, "S9", -1);
        moves("S9V9(4)", 19999, "S9V99", 199);
        moves("S9V9", -15, "S9V9", -15);
        moves("S9V9", -15, "S9V9(4)", -15000);
    }

    private static void movedLowestDigits() {
        CHECKS.sentence("the lowest n digits of it are stored");
        for (int n = 1; n <= 8; n++) {
            moves("9(9)", 987654321, "9(" + n + ")", 987654321 % TENS[n]);
            moves("9(9)", TENS[n], "9(" + n + ")", 0);
            moves("9(9)", TENS[n] - 1, "9(" + n + ")", TENS[n] - 1);
            moves("S9(9)", -TENS[n] - 1, "S9(" + n + ")", -1);
        }
        moves("9(9)", 987654321, "9(9)", 987654321);
        moves("9(9)", 987654321, "9(5)V9(4)", 543210000);
        moves("9(3)V99", 12345, "9V9", 34);
        moves("9(3)", 456, "V9(4)", 0);
        moves("9(9)", 429497, "V9(4)", 0);
        moves("S9(9)", -429497, "S9V9(4)", -70000);
    }

    private static void movedSigns() {
        CHECKS.sentence("with its sign if the field is signed (0 has none)");
        moves("S9(3)", -123, "S9(3)", -123);
        moves("S9(3)", -123, "9(3)", 123);
        moves("S9(3)", -123, "Z(3)", 123);
        moves("S9(3)", -123, "-9(3)", -123);
        String[] zeros = {"3030", "000c", "30302b", "0000"};
        for (int usage = 0; usage <= 3; usage++) {
            PicturedRecord r = Records.zoned("S9(3)V9", -1000, "S9V9", -9);
            Records.make(r, "S99", usage, 20);
            r.put(2, -1, 0);
            CHECKS.same("move of -100", r.move(0, 2), 0);
            CHECKS.same("the lowest digits are 0, usage " + usage, Records.hex(r, 20, r.size(2)), zeros[usage]);
            r.put(2, -1, 0);
            CHECKS.same("move of -0.9", r.move(1, 2), 0);
            CHECKS.same("cut to 0, usage " + usage, Records.hex(r, 20, r.size(2)), zeros[usage]);
        }
        PicturedRecord edited = Records.with("+99", 0);
        edited.put(0, -100, 0);
        CHECKS.same("an edited 0", Records.text(edited, 0, 3), "+00");
    }

    private static void movedWithoutSizeErrors() {
        CHECKS.sentence("there are no size errors");
        PicturedRecord r = Records.zoned("9(9)", 999999999, "9", 0, "Z", 0);
        CHECKS.same("move of a number too large", r.move(0, 1), 0);
        CHECKS.same("put of a number too large", r.put(1, Integer.MAX_VALUE, 0), true);
        CHECKS.same("put of the least number", r.put(1, Integer.MIN_VALUE, 0), true);
        CHECKS.same("put with decimals left over", r.put(1, 123456789, 9), true);
        CHECKS.same("move to an edited field", r.move(0, 2), 0);
        CHECKS.same("size errors", r.sizeErrors(), 0);
        CHECKS.same("data errors", r.dataErrors(), 0);
    }
}
