/** Promise 12: move. */
public final class MoveTest {
    private static final Checks CHECKS = new Checks();

    public static void main(String[] args) {
        betweenUsages();
        cutsAndSigns();
        editedBothWays();
        refusals();
        notSound();
        overlaps();
        CHECKS.finish();
    }

    private static void moves(String from, int units, String to, long due) {
        PicturedRecord r = Records.zoned(from, units, to, 0);
        CHECKS.same("move of " + units + " from " + from + " to " + to, r.move(0, 1), 0);
        CHECKS.same("value in " + to + " of " + units + " from " + from, r.value(1), due);
        CHECKS.same("value left in " + from, r.value(0), units);
        CHECKS.same("errors", r.sizeErrors() + r.dataErrors(), 0);
    }

    private static void betweenUsages() {
        for (int from = 0; from <= 3; from++) {
            for (int to = 0; to <= 3; to++) {
                PicturedRecord r = new PicturedRecord();
                Records.make(r, "S9(5)V99", from, 0);
                Records.make(r, "S9(6)V9", to, 20);
                r.put(0, -1234567, 2);
                CHECKS.same("move from usage " + from + " to " + to, r.move(0, 1), 0);
                CHECKS.same("value from usage " + from + " to " + to, r.value(1), -123456);
            }
        }
    }

    private static void cutsAndSigns() {
        moves("9(5)", 12345, "9(3)", 345);
        moves("S9(3)V99", -12399, "S99", -23);
        moves("S9(3)V99", -99, "S99", 0);
        moves("S9(3)", -123, "9(3)", 123);
        moves("9", 7, "9V9(4)", 70000);
        moves("9(9)", 999999999, "9(5)V9(4)", 999990000);
        moves("V9(4)", 1999, "9V9", 1);
        moves("S9", -5, "S9(9)", -5);
    }

    private static void editedBothWays() {
        moves("S9(5)V99", -1234567, "$$,$$9.99CR", -234567);
        moves("$$,$$9.99CR", -234567, "S9(3)V99", -34567);
        moves("$$,$$9.99CR", -234567, "++,++9.9", -23456);
        moves("Z9", 5, "9(2)", 5);
        moves("S9", -5, "Z9", 5);
    }

    private static void refusals() {
        PicturedRecord r = Records.zoned("9", 5, "9", 6);
        r.poke(0, 0);
        String before = Records.allBytes(r);
        int[] others = {-1, 2, 12, Integer.MIN_VALUE, Integer.MAX_VALUE};
        for (int f : others) {
            CHECKS.same("move from " + f, r.move(f, 1), -1);
            CHECKS.same("move to " + f + ", from one not sound", r.move(0, f), -1);
            CHECKS.same("move both " + f, r.move(f, f), -1);
        }
        CHECKS.same("bytes behind refusals", Records.allBytes(r), before);
        CHECKS.same("data errors behind refusals", r.dataErrors(), 0);
    }

    private static void notSound() {
        PicturedRecord r = Records.zoned("99", 12, "99", 34);
        r.poke(1, 32);
        String before = Records.allBytes(r);
        CHECKS.same("move from one not sound", r.move(0, 1), -2);
        CHECKS.same("bytes", Records.allBytes(r), before);
        CHECKS.same("data errors", r.dataErrors(), 1);
        CHECKS.same("move to one not sound", r.move(1, 0), 0);
        CHECKS.same("value then", r.value(0), 34);
        CHECKS.same("data errors then", r.dataErrors(), 1);
    }

    private static void overlaps() {
        PicturedRecord r = new PicturedRecord();
        Records.make(r, "9(4)", 0, 0);
        Records.make(r, "9(6)", 0, 2);
        r.put(0, 1234, 0);
        CHECKS.same("move onto its own bytes", r.move(0, 1), 0);
        CHECKS.same("bytes", Records.text(r, 0, 8), "12001234");
        PicturedRecord same = Records.with("S9(3)", 1);
        Records.pokeHex(same, 0, "123f");
        CHECKS.same("move to itself", same.move(0, 0), 0);
        CHECKS.same("bytes behind a move to itself", Records.hex(same, 0, 2), "123c");
    }
}
