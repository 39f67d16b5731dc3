/** Promise 16: total. */
public final class TotalTest {
    private static final Checks CHECKS = new Checks();

    public static void main(String[] args) {
        sums();
        modes();
        sizes();
        editedOnes();
        refusals();
        notSound();
        CHECKS.finish();
    }

    private static void sums() {
        PicturedRecord r = Records.zoned("99", 12, "S99V9", -45, "9V9(4)", 12345, "S9(5)V9(4)", 1);
        CHECKS.same("total 0 .. 2", r.total(0, 2, 3, 0), 0);
        CHECKS.same("value", r.value(3), 120000 - 45000 + 12345);
        CHECKS.same("total 1 .. 2", r.total(1, 2, 3, 0), 0);
        CHECKS.same("value", r.value(3), -45000 + 12345);
        CHECKS.same("total 0 .. 0", r.total(0, 0, 3, 0), 0);
        CHECKS.same("value", r.value(3), 120000);
        CHECKS.same("total with the target among them", r.total(0, 3, 0, 0), 0);
        CHECKS.same("value", r.value(0), 20);
        CHECKS.same("the others stay", r.value(1), -45);
    }

    private static void modes() {
        long[] due = {4, 5, 4, 4, 5, 5, 4};
        long[] negative = {-4, -5, -4, -4, -5, -4, -5};
        for (int mode = 0; mode <= 6; mode++) {
            PicturedRecord r = Records.zoned("9V99", 325, "9V99", 125, "9", 0, "S9V9", -45, "S9", 0);
            CHECKS.same("total mode " + mode, r.total(0, 1, 2, mode), 0);
            CHECKS.same("mode " + mode, r.value(2), due[mode]);
            CHECKS.same("total mode " + mode + " negative", r.total(3, 3, 4, mode), 0);
            CHECKS.same("mode " + mode + " negative", r.value(4), negative[mode]);
        }
        PicturedRecord r = Records.zoned("9V99", 325, "9V99", 125, "9V9", 0, "9", 8);
        CHECKS.same("mode 7 whole", r.total(0, 1, 2, 7), 0);
        CHECKS.same("its value", r.value(2), 45);
        CHECKS.same("mode 7 not whole", r.total(0, 1, 3, 7), 1);
        CHECKS.same("its value stays", r.value(3), 8);
    }

    private static void sizes() {
        PicturedRecord r = Records.zoned("9", 5, "9", 5, "S9", -1, "9", 3);
        CHECKS.same("too large", r.total(0, 1, 3, 0), 1);
        CHECKS.same("stays", r.value(3), 3);
        CHECKS.same("size errors", r.sizeErrors(), 1);
        CHECKS.same("the sum alone counts", r.total(0, 2, 3, 0), 0);
        CHECKS.same("value", r.value(3), 9);
        CHECKS.same("size errors then", r.sizeErrors(), 1);
        PicturedRecord most = new PicturedRecord();
        for (int k = 0; k < 12; k++) {
            Records.make(most, "9(9)", 3, 4 * k);
            most.put(k, 999999999, 0);
        }
        CHECKS.same("twelve of the largest", most.total(0, 11, 0, 0), 1);
        PicturedRecord n = Records.zoned("S9", -5, "9", 0);
        CHECKS.same("target not signed", n.total(0, 0, 1, 0), 0);
        CHECKS.same("without its sign", n.value(1), 5);
    }

    private static void editedOnes() {
        PicturedRecord r = Records.zoned("9", 5, "Z9", 10, "9", 2, "9(3)", 7, "--9.9", 0);
        r.poke(1, 'x');
        CHECKS.same("edited one among", r.total(0, 2, 3, 0), 0);
        CHECKS.same("value", r.value(3), 7);
        CHECKS.same("edited one alone", r.total(1, 1, 3, 7), 0);
        CHECKS.same("0 then", r.value(3), 0);
        CHECKS.same("edited target", r.total(0, 4, 4, 0), 0);
        CHECKS.same("its text", Records.text(r, 7, 5), "  7.0");
        CHECKS.same("errors", r.sizeErrors() + r.dataErrors(), 0);
    }

    private static void refusals() {
        PicturedRecord r = Records.zoned("9", 5, "9", 3);
        r.poke(0, 1);
        String before = Records.allBytes(r);
        int[] modes = {-1, 8, Integer.MIN_VALUE, Integer.MAX_VALUE};
        for (int mode : modes) {
            CHECKS.same("mode " + mode, r.total(0, 1, 1, mode), -1);
        }
        int[] others = {-1, 2, 12, Integer.MIN_VALUE, Integer.MAX_VALUE};
        for (int f : others) {
            CHECKS.same("first is " + f, r.total(f, 1, 1, 0), -1);
            CHECKS.same("last is " + f, r.total(0, f, 1, 0), -1);
            CHECKS.same("first and last are " + f, r.total(f, f, 1, 0), -1);
            CHECKS.same("to is " + f, r.total(0, 1, f, 0), -1);
        }
        CHECKS.same("first behind last", r.total(1, 0, 1, 0), -1);
        CHECKS.same("bytes", Records.allBytes(r), before);
        CHECKS.same("errors", r.sizeErrors() + r.dataErrors(), 0);
    }

    private static void notSound() {
        PicturedRecord r = Records.zoned("9", 5, "9", 3, "9", 2);
        r.poke(1, 1);
        String before = Records.allBytes(r);
        CHECKS.same("one not sound", r.total(0, 2, 2, 0), -2);
        CHECKS.same("bytes", Records.allBytes(r), before);
        CHECKS.same("data errors", r.dataErrors(), 1);
        CHECKS.same("target not sound", r.total(0, 0, 1, 0), 0);
        CHECKS.same("its value", r.value(1), 5);
        CHECKS.same("data errors then", r.dataErrors(), 1);
    }
}
