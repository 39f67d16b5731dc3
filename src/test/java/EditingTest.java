/** Promises 10 and 11 for edited fields: put gives the text that is due, and value reads it back. */
public final class EditingTest {
    private static final Checks CHECKS = new Checks();

    public static void main(String[] args) {
        plainBodies();
        suppression();
        floating();
        headsAndTails();
        eighteenSymbols();
        everyUnitIsReadBack();
        CHECKS.finish();
    }

    private static void edits(String picture, int units, String due) {
        PicturedRecord r = Records.with(picture, 0);
        int scale = r.shape(0) / 16 % 16;
        r.put(0, units, scale);
        CHECKS.same(picture + " of " + units, Records.text(r, 0, r.size(0)), due);
        CHECKS.same(picture + " of " + units + " read back", r.value(0), units);
        CHECKS.same("the byte behind " + picture, r.peek(r.size(0)), 0);
    }

    private static void plainBodies() {
        edits("9B", 7, "7 ");
        edits("9.99", 5, "0.05");
        edits("99/99/99", 1203, "00/12/03");
        edits("9,99", 123, "1,23");
        edits("9B9099", 1234, "1 2034");
        edits(".9", 3, ".3");
        edits(".9,9", 3, ".0,3");
        edits("9.9B9", 345, "3.4 5");
        edits("90(3)", 0, "0000");
    }

    private static void suppression() {
        edits("ZZZ", 0, "   ");
        edits("ZZZ", 10, " 10");
        edits("Z,ZZZ", 5, "    5");
        edits("Z,ZZZ", 1005, "1,005");
        edits("ZB0/,Z", 3, "     3");
        edits("ZB0/,Z", 23, "2 0/,3");
        edits("Z,", 0, "  ");
        edits("Z,", 4, "4,");
        edits("Z,9", 4, "  4");
        edits("Z.99", 4, " .04");
        edits("ZZ,.9", 4, "   .4");
        edits("ZZ.9B9", 0, "  .0 0");
        edits("*,***", 5, "****5");
        edits("*,***", 1005, "1,005");
        edits("**,B", 0, "****");
        edits("**.99", 0, "**.00");
        edits("*B9", 1, "**1");
        edits("*(3)9", 20, "**20");
    }

    private static void floating() {
        edits("$$", 0, "  ");
        edits("$$", 5, "$5");
        edits("$$$", 5, " $5");
        edits("$$9", 0, " $0");
        edits("$$.99", 7, " $.07");
        edits("$$.99", 107, "$1.07");
        edits("$$,$$9.99", 0, "    $0.00");
        edits("$$,$$9.99", 123456, "$1,234.56");
        edits("$$,999", 5, "  $005");
        edits("$,$$9", 5, "   $5");
        edits("$,$$9", 15, "  $15");
        edits("$,$$9", 115, " $115");
        edits("$B$", 3, " $3");
        edits("+++", 0, "   ");
        edits("+++", 5, " +5");
        edits("+++", -5, " -5");
        edits("+++", -15, "-15");
        edits("++9", 0, " +0");
        edits("---", 5, "  5");
        edits("---", -5, " -5");
        edits("--9", 0, "  0");
        edits("--,--9.9", -12345, "-1,234.5");
        edits("--,--9.9", -5, "    -0.5");
        edits("++,", 0, "   ");
        edits("++,", 3, "+3,");
    }

    private static void headsAndTails() {
        edits("+9", 0, "+0");
        edits("+9", 4, "+4");
        edits("+9", -4, "-4");
        edits("-9", 4, " 4");
        edits("-9", -4, "-4");
        edits("$9", 4, "$4");
        edits("$Z", 0, "$ ");
        edits("$**", 0, "$**");
        edits("+$Z9", -4, "-$ 4");
        edits("-$Z9", 4, " $ 4");
        edits("+ZZ", 0, "+  ");
        edits("9+", 4, "4+");
        edits("9+", -4, "4-");
        edits("9-", 4, "4 ");
        edits("9-", -4, "4-");
        edits("Z-", 0, "  ");
        edits("*+", 0, "*+");
        edits("9CR", 4, "4  ");
        edits("9CR", -4, "4CR");
        edits("9DB", 4, "4  ");
        edits("9DB", -4, "4DB");
        edits("*DB", 0, "*  ");
        edits("$$9.99CR", -50, " $0.50CR");
        edits("$++9", -3, "$ -3");
        edits("+$$9", -3, "- $3");
        edits("-$$9", 13, " $13");
        edits("9BCR", -1, "1 CR");
    }

    private static void eighteenSymbols() {
        edits("Z(9)B(9)", 0, " ".repeat(18));
        edits("Z(9)B(9)", 123456789, "123456789" + " ".repeat(9));
        edits("9(9)0(7)CR", -120, "000000120" + "0".repeat(7) + "CR");
        edits("+$9(9)/(7)", -120, "-$000000120///////");
        edits("-,---,---/BB0,B9.9", -1200034, "  -12,000/  0, 3.4");
        edits("$(9),(7).9", 5, " ".repeat(15) + "$.5");
        PicturedRecord r = new PicturedRecord();
        Records.make(r, "9(9)0(7)CR", 0, 46);
        r.put(0, -7, 0);
        CHECKS.same("eighteen symbols at the end of the record", r.value(0), -7);
        CHECKS.same("their text", Records.text(r, 46, 18), "0000000070000000CR");
    }

    private static void everyUnitIsReadBack() {
        String[] signed = {"+++9", "---", "-ZZ9", "$**CR", "$,$0$DB", "++B0+", "9/09.9-", "+$$,$9"};
        for (String picture : signed) {
            int shape = Records.with(picture, 0).shape(0);
            int limit = (int) Math.pow(10, shape % 16);
            int scale = shape / 16 % 16;
            for (int units = 1 - limit; units < limit; units++) {
                PicturedRecord r = Records.with(picture, 0);
                r.put(0, units, scale);
                CHECKS.same(picture + " of " + units + " read back", r.value(0), units);
            }
        }
    }
}
