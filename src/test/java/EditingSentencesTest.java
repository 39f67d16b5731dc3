/** One test for each sentence of 'Terms' on EDITING. */
public final class EditingSentencesTest {
    private static final Checks CHECKS = new Checks();

    public static void main(String[] args) {
        digitsHighestFirst();
        shownIsANine();
        shownIsThePoint();
        shownIsADigit();
        shownIsBehindTheBody();
        fromShownOn();
        beforeShown();
        floatingSign();
        dollarsShowThemselves();
        plusSigns();
        minusSigns();
        headsAndTails();
        lettersInTheTail();
        CHECKS.finish();
    }

    private static void edits(String picture, int units, String due) {
        PicturedRecord r = Records.with(picture, 0);
        r.put(0, units, r.shape(0) / 16 % 16);
        CHECKS.same(picture + " of " + units, Records.text(r, 0, r.size(0)), due);
        CHECKS.same(picture + " of " + units + " read back", r.value(0), units);
    }

    private static void digitsHighestFirst() {
        CHECKS.sentence("The digit places get the digits of u without sign, the highest first.");
        edits("9B9/9", 123, "1 2/3");
        edits("ZZ9.99", 12345, "123.45");
        edits("*9.9", 123, "12.3");
        edits("$$$$", 123, "$123");
        edits("++,+9.9", -1234, "-1,23.4");
        edits("9(9)B", 987654321, "987654321 ");
        edits("99,99", 5, "00,05");
    }

    private static void shownIsANine() {
        CHECKS.sentence("SHOWN is the first place in the body that is a nine");
        edits("Z9", 0, " 0");
        edits("Z,999", 0, "  000");
        edits("*,B9", 0, "***0");
        edits("$$,999", 7, "  $007");
        edits("Z99", 3, " 03");
        edits("$Z9", 0, "$ 0");
    }

    private static void shownIsThePoint() {
        CHECKS.sentence("or the point");
        edits("ZZ.9", 0, "  .0");
        edits("ZZ,.9", 0, "   .0");
        edits("**.99", 1, "**.01");
        edits("$$.99", 0, " $.00");
        edits("--.9", -1, " -.1");
        edits(".9", 0, ".0");
        edits("Z.,9", 0, " .,0");
    }

    private static void shownIsADigit() {
        CHECKS.sentence("or a digit place with a digit other than 0");
        edits("ZZZ", 1, "  1");
        edits("ZZZ", 10, " 10");
        edits("ZZZ", 100, "100");
        edits("ZZZ", 101, "101");
        edits("Z,ZZ", 9, "   9");
        edits("Z,ZZ", 100, "1,00");
        edits("**9", 10, "*10");
        edits("$$$9", 100, "$100");
        edits("+++9", -20, " -20");
        edits("ZZ.9", 10, " 1.0");
        edits("ZZ9.9", 5, "  0.5");
    }

    private static void shownIsBehindTheBody() {
        CHECKS.sentence("if there is none of these, SHOWN is behind the body");
        edits("Z", 0, " ");
        edits("ZZ,ZZ", 0, "     ");
        edits("Z,B0/", 0, "     ");
        edits("***", 0, "***");
        edits("*,*0", 0, "****");
        edits("$$", 0, "  ");
        edits("$,$$/", 0, "     ");
        edits("+++", 0, "   ");
        edits("--", 0, "  ");
        edits("$ZZ+", 0, "$  +");
        edits("+$**", 0, "+$**");
    }

    private static void fromShownOn() {
        CHECKS.sentence("In the body, from SHOWN on: digit places show their digits, B shows a space, the point and other "
            + "insertions themselves.");
        edits("9B9,909/9.9", 123456, "1 2,304/5.6");
        edits("9,B0/", 7, "7, 0/");
        edits("Z,B0/Z", 70, "7, 0/0");
        edits("*B*", 70, "7 0");
        edits("$$B$", 70, "$7 0");
        edits("Z.9B9", 0, " .0 0");
        edits("Z0Z", 70, "700");
    }

    private static void beforeShown() {
        CHECKS.sentence("Before SHOWN everything shows a space, or a * if the fillers are *");
        edits("Z,B0/Z", 3, "     3");
        edits("*,B0/*", 3, "*****3");
        edits("Z,9", 0, "  0");
        edits("*,9", 0, "**0");
        edits("*/.9", 0, "**.0");
        edits("$,B0/$$", 3, "     $3");
        edits("Z0Z", 3, "  3");
        edits("*0*", 3, "**3");
    }

    private static void floatingSign() {
        CHECKS.sentence("but if the fillers are floating and SHOWN is not behind the body, the last place before SHOWN "
            + "shows the SIGN CHARACTER of the filler.");
        edits("$$$", 5, " $5");
        edits("$$$", 50, "$50");
        edits("$$9", 0, " $0");
        edits("$,$", 5, " $5");
        edits("$$,.9", 0, "  $.0");
        edits("$$0B9", 0, "   $0");
        edits("$$B9", 12, "$1 2");
        edits("$$$", 0, "   ");
        edits("+++", 0, "   ");
        edits("ZZ9", 0, "  0");
        edits("**9", 0, "**0");
    }

    private static void dollarsShowThemselves() {
        CHECKS.sentence("The sign character of $ is $");
        edits("$$9", 3, " $3");
        edits("$$9-", -3, " $3-");
        edits("$9", 3, "$3");
        edits("$Z", 0, "$ ");
        edits("-$9", -3, "-$3");
    }

    private static void plusSigns() {
        CHECKS.sentence("of + it is + or, if u is negative, -");
        edits("++9", 3, " +3");
        edits("++9", 0, " +0");
        edits("++9", -3, " -3");
        edits("+9", 0, "+0");
        edits("+9", -3, "-3");
        edits("9+", 3, "3+");
        edits("9+", -3, "3-");
    }

    private static void minusSigns() {
        CHECKS.sentence("of - it is a space or, if u is negative, -.");
        edits("--9", 3, "  3");
        edits("--9", 0, "  0");
        edits("--9", -3, " -3");
        edits("-9", 0, " 0");
        edits("-9", 3, " 3");
        edits("-9", -3, "-3");
        edits("9-", 3, "3 ");
        edits("9-", -3, "3-");
    }

    private static void headsAndTails() {
        CHECKS.sentence("HEAD and a TAIL + or - show their sign characters");
        edits("+ZZ", 0, "+  ");
        edits("-ZZ", -1, "- 1");
        edits("$ZZ", 0, "$  ");
        edits("+$ZZ", -1, "-$ 1");
        edits("-$**", 1, " $*1");
        edits("$**", 0, "$**");
        edits("ZZ+", 0, "  +");
        edits("ZZ-", -1, " 1-");
        edits("**+", 1, "*1+");
        edits("+**", 0, "+**");
        edits("-**", 0, " **");
        edits("$$$-", -5, " $5-");
        edits("$--9", -5, "$ -5");
    }

    private static void lettersInTheTail() {
        CHECKS.sentence("CR and DB show themselves if u is negative, else two spaces.");
        edits("9CR", -3, "3CR");
        edits("9CR", 3, "3  ");
        edits("9CR", 0, "0  ");
        edits("9DB", -3, "3DB");
        edits("9DB", 3, "3  ");
        edits("*DB", 0, "*  ");
        edits("*CR", -1, "1CR");
        edits("$$CR", -1, "$1CR");
        edits("ZBDB", -1, "1 DB");
    }
}
