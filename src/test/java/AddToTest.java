/** Promise 15: addTo. */
public final class AddToTest {
    private static final Checks CHECKS = new Checks();

    public static void main(String[] args) {
        eachFieldGetsIt();
        modesAndScales();
        sizeErrorsFieldByField();
        readsBeforeItStores();
        editedFieldsAreLeft();
        refusals();
        notSound();
        CHECKS.finish();
    }

    private static void eachFieldGetsIt() {
        PicturedRecord r = Records.zoned("99", 5, "99", 10, "S99", -20, "99", 30);
        CHECKS.same("addTo 1 .. 2", r.addTo(0, 1, 2, 0), 0);
        CHECKS.same("a", r.value(0), 5);
        CHECKS.same("first", r.value(1), 15);
        CHECKS.same("last", r.value(2), -15);
        CHECKS.same("behind last", r.value(3), 30);
        CHECKS.same("addTo 3 .. 3", r.addTo(0, 3, 3, 0), 0);
        CHECKS.same("the one", r.value(3), 35);
        CHECKS.same("addTo itself and others", r.addTo(0, 0, 3, 0), 0);
        CHECKS.same("itself", r.value(0), 10);
        CHECKS.same("others get the value it had", r.value(1), 20);
        CHECKS.same("the last of them", r.value(3), 40);
        CHECKS.same("addTo with a in the middle", r.addTo(1, 0, 3, 0), 0);
        CHECKS.same("before a", r.value(0), 30);
        CHECKS.same("a itself", r.value(1), 40);
        CHECKS.same("behind a", r.value(2), 10);
    }

    private static void modesAndScales() {
        long[] due = {12, 13, 12, 12, 13, 13, 12};
        for (int mode = 0; mode <= 6; mode++) {
            PicturedRecord r = Records.zoned("9V99", 250, "99", 10, "99V9", 100, "9(3)V9(4)", 100000);
            CHECKS.same("addTo mode " + mode, r.addTo(0, 1, 3, mode), 0);
            CHECKS.same("mode " + mode, r.value(1), due[mode]);
            CHECKS.same("one decimal", r.value(2), 125);
            CHECKS.same("four decimals", r.value(3), 125000);
        }
        PicturedRecord r = Records.zoned("9V99", 250, "99", 10, "99V9", 100);
        CHECKS.same("addTo mode 7", r.addTo(0, 1, 2, 7), 2);
        CHECKS.same("not whole: stays", r.value(1), 10);
        CHECKS.same("whole: stored", r.value(2), 125);
        PicturedRecord n = Records.zoned("S9", -7, "9", 3);
        CHECKS.same("addTo not signed", n.addTo(0, 1, 1, 0), 0);
        CHECKS.same("without its sign", n.value(1), 4);
    }

    private static void sizeErrorsFieldByField() {
        PicturedRecord r = new PicturedRecord();
        for (int k = 0; k < 12; k++) {
            Records.make(r, "9", 0, k);
            r.put(k, k % 3 == 0 ? 9 : 1, 0);
        }
        int due = 1 + 8 + 64 + 512;
        CHECKS.same("addTo of 1 to all", r.addTo(1, 0, 11, 0), due);
        CHECKS.same("size errors", r.sizeErrors(), 4);
        CHECKS.same("one with an error stays", r.value(9), 9);
        CHECKS.same("one without", r.value(11), 2);
        CHECKS.same("addTo of 9 to all", r.addTo(0, 0, 11, 0), 4095);
        CHECKS.same("size errors then", r.sizeErrors(), 16);
        CHECKS.same("data errors", r.dataErrors(), 0);
    }

    private static void readsBeforeItStores() {
        PicturedRecord r = new PicturedRecord();
        Records.make(r, "9", 0, 20);
        Records.make(r, "9(4)", 0, 0);
        Records.make(r, "9(4)", 0, 2);
        r.put(0, 7, 0);
        Records.pokeText(r, 0, "119999");
        CHECKS.same("addTo overlapping ones", r.addTo(0, 1, 2, 0), 4);
        CHECKS.same("bytes: the second field had a size error", Records.text(r, 0, 6), "120699");
        Records.pokeText(r, 0, "112233");
        CHECKS.same("addTo overlapping ones again", r.addTo(0, 1, 2, 0), 0);
        CHECKS.same("bytes: the later store stands", Records.text(r, 0, 6), "112240");
    }

    private static void editedFieldsAreLeft() {
        PicturedRecord r = Records.zoned("99", 5, "Z9", 10, "99", 20);
        r.poke(2, 'x');
        CHECKS.same("addTo with an edited one among", r.addTo(0, 0, 2, 0), 0);
        CHECKS.same("the edited one", Records.text(r, 2, 2), "x0");
        CHECKS.same("the one behind", r.value(2), 25);
        CHECKS.same("addTo to an edited one alone", r.addTo(0, 1, 1, 7), 0);
        CHECKS.same("it stays", Records.text(r, 2, 2), "x0");
        CHECKS.same("errors", r.sizeErrors() + r.dataErrors(), 0);
    }

    private static void refusals() {
        PicturedRecord r = Records.zoned("99", 5, "Z9", 10, "99", 20);
        r.poke(0, 1);
        String before = Records.allBytes(r);
        int[] modes = {-1, 8, Integer.MIN_VALUE, Integer.MAX_VALUE};
        for (int mode : modes) {
            CHECKS.same("mode " + mode, r.addTo(2, 2, 2, mode), -1);
        }
        int[] others = {-1, 3, 12, Integer.MIN_VALUE, Integer.MAX_VALUE};
        for (int f : others) {
            CHECKS.same("a is " + f, r.addTo(f, 0, 2, 0), -1);
            CHECKS.same("first is " + f, r.addTo(0, f, 2, 0), -1);
            CHECKS.same("last is " + f, r.addTo(0, 0, f, 0), -1);
            CHECKS.same("first and last are " + f, r.addTo(0, f, f, 0), -1);
        }
        CHECKS.same("first behind last", r.addTo(2, 2, 1, 0), -1);
        CHECKS.same("a edited", r.addTo(1, 2, 2, 0), -1);
        CHECKS.same("bytes", Records.allBytes(r), before);
        CHECKS.same("errors", r.sizeErrors() + r.dataErrors(), 0);
    }

    private static void notSound() {
        PicturedRecord r = Records.zoned("99", 5, "99", 10, "99", 20, "Z9", 1);
        r.poke(4, 1);
        String before = Records.allBytes(r);
        CHECKS.same("one of them not sound", r.addTo(0, 0, 2, 0), -2);
        CHECKS.same("a not sound", r.addTo(2, 0, 1, 0), -2);
        CHECKS.same("a not sound, all edited", r.addTo(2, 3, 3, 0), -2);
        CHECKS.same("bytes", Records.allBytes(r), before);
        CHECKS.same("data errors", r.dataErrors(), 3);
        CHECKS.same("one not sound beside them", r.addTo(0, 0, 1, 0), 0);
        CHECKS.same("value", r.value(1), 15);
        CHECKS.same("data errors then", r.dataErrors(), 3);
    }
}
