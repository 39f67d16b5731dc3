/** One test for each sentence of 'Terms' that says what a picture is. */
public final class PictureSentencesTest {
    private static final Checks CHECKS = new Checks();
    private static final Shapes SHAPES = new Shapes(CHECKS);

    public static void main(String[] args) {
        repetitions();
        repetitionsOfZero();
        writtenOutOnce();
        oneToEighteenSymbols();
        bracketsLeft();
        numericOnes();
        numericDigits();
        numericScale();
        numericSigned();
        editedIfNotNumeric();
        signInHead();
        dollarInHead();
        signInTail();
        lettersInTail();
        whatABodyIsMadeOf();
        fillersAreTheSame();
        bodyNotEmpty();
        noInsertionFirst();
        fillersStandFirst();
        nineBehindThePoint();
        twoFloating();
        digitPlaces();
        editedDigits();
        editedScale();
        editedSigned();
        allElse();
        CHECKS.finish();
    }

    private static void repetitions() {
        CHECKS.sentence("one of the characters 9 Z * $ + - , B 0 / followed by ( one or two digits ) stands for that "
            + "character as many times as the number says");
        SHAPES.numeric("9(1)", 1, 0, false);
        SHAPES.numeric("9(01)", 1, 0, false);
        SHAPES.numeric("9(8)9", 9, 0, false);
        SHAPES.edited("Z(4)", 4, 4, 0, false);
        SHAPES.edited("*(05)", 5, 5, 0, false);
        SHAPES.edited("$(4)", 4, 3, 0, false);
        SHAPES.edited("+(10)", 10, 9, 0, true);
        SHAPES.edited("-(2)", 2, 1, 0, true);
        SHAPES.edited("9,(3)", 4, 1, 0, false);
        SHAPES.edited("9B(17)", 18, 1, 0, false);
        SHAPES.edited("90(4)", 5, 1, 0, false);
        SHAPES.edited("9/(12)", 13, 1, 0, false);
        SHAPES.none("S(1)9", "V(1)9", "9.(1)9", "9C(1)R", "9CR(1)", "9D(1)B", "(1)9");
        SHAPES.none("9()", "9(001)", "9(1x)", "9(x)", "9(/)", "9(:)", "9(1:)", "9( 1)", "9(1 )", "9(+1)");
        SHAPES.none("9B()", "9B(/)", "9B(:)", "9B(0/)", "9B(0:)", "9B(1/)", "9B(/5)", "9B(:0)", "9B(123)", "9B(01 )");
    }

    private static void repetitionsOfZero() {
        CHECKS.sentence("a number that is 0 makes it no picture");
        SHAPES.none("9(0)", "9(00)", "9(0)9", "99(00)", "9B(0)", "Z(0)9", "$(0)99", "9.9B(00)", "9(2)9(0)");
        SHAPES.numeric("9(01)9(02)", 3, 0, false);
        SHAPES.edited("9B(10)", 11, 1, 0, false);
    }

    private static void writtenOutOnce() {
        CHECKS.sentence("This is done once, from the left, with the characters of the draft: nothing that was written "
            + "out is written out again.");
        SHAPES.none("9(1)(2)", "9(2)(1)", "9B(1)(2)", "9B(10(1))", "9B(0(1)1)", "9B(10(2))", "Z(1)(1)9");
        SHAPES.edited("90(2)", 3, 1, 0, false);
        SHAPES.edited("9(2)0(3)9(1)", 6, 3, 0, false);
    }

    private static void oneToEighteenSymbols() {
        CHECKS.sentence("What comes of it are the SYMBOLS, from 1 to 18 of them");
        SHAPES.none("");
        SHAPES.numeric("9", 1, 0, false);
        SHAPES.edited("9,,,,,,,,,,,,,,,,,", 18, 1, 0, false);
        SHAPES.none("9,,,,,,,,,,,,,,,,,,");
        SHAPES.edited("9B(17)", 18, 1, 0, false);
        SHAPES.none("9B(18)", "9B(17)B", "9BB(17)", "B(18)9", "9B(99)");
        SHAPES.edited("+$9(9)B(7)", 18, 9, 0, true);
        SHAPES.none("+$9(9)B(8)");
        SHAPES.edited("9(9)B(7)CR", 18, 9, 0, true);
        SHAPES.none("9(9)B(8)CR");
    }

    private static void bracketsLeft() {
        CHECKS.sentence("a bracket that is left among them makes it no picture");
        SHAPES.none("(", ")", "9(", "9)", "(9", ")9", "9(1", "9(1)(", "9(1))", "((9(1)", "()9", "9()", "9((1))", "9(2(1)");
        SHAPES.none("9.9)", "Z(", "$(9", "9CR)", "S(9)", "S9)V9");
    }

    private static void numericOnes() {
        CHECKS.sentence("NUMERIC: perhaps one S, then nines with perhaps one V anywhere among, before or behind them.");
        SHAPES.numeric("999", 3, 0, false);
        SHAPES.numeric("S999", 3, 0, true);
        SHAPES.numeric("9V99", 3, 2, false);
        SHAPES.numeric("V999", 3, 3, false);
        SHAPES.numeric("999V", 3, 0, false);
        SHAPES.numeric("SV9", 1, 1, true);
        SHAPES.numeric("S9V", 1, 0, true);
        SHAPES.none("SS9", "9S", "9S9", "VS9", "S9S", "9V9V", "VV9", "9VV", "V9V", "S9V9V9");
    }

    private static void numericDigits() {
        CHECKS.sentence("Its DIGITS is the number of nines (1 .. 9)");
        SHAPES.none("S", "V", "SV", "VS");
        String nines = "";
        for (int n = 1; n <= 9; n++) {
            nines += "9";
            SHAPES.numeric(nines, n, 0, false);
            SHAPES.numeric("S9(" + n + ")", n, 0, true);
        }
        SHAPES.none("9999999999", "S9999999999", "9(10)", "9(6)V9(4)", "S9(9)V9", "9(18)", "V9(10)");
    }

    private static void numericScale() {
        CHECKS.sentence("its SCALE the number of nines behind the V (0 .. 4)");
        SHAPES.numeric("99999", 5, 0, false);
        SHAPES.numeric("99999V", 5, 0, false);
        SHAPES.numeric("9999V9", 5, 1, false);
        SHAPES.numeric("999V99", 5, 2, false);
        SHAPES.numeric("99V999", 5, 3, false);
        SHAPES.numeric("9V9999", 5, 4, false);
        SHAPES.numeric("SV9999", 4, 4, true);
        SHAPES.none("V99999", "9V99999", "SV9(5)", "9(4)V9(5)");
    }

    private static void numericSigned() {
        CHECKS.sentence("It is SIGNED if it has the S.");
        SHAPES.numeric("9(4)", 4, 0, false);
        SHAPES.numeric("S9(4)", 4, 0, true);
        SHAPES.numeric("V9(4)", 4, 4, false);
        SHAPES.numeric("SV9(4)", 4, 4, true);
    }

    private static void editedIfNotNumeric() {
        CHECKS.sentence("EDITED, if it is not numeric and this holds.");
        SHAPES.numeric("9(9)", 9, 0, false);
        SHAPES.edited("9(9)B", 10, 9, 0, false);
        SHAPES.edited("Z", 1, 1, 0, false);
        SHAPES.none("S9B", "9VB", "9V.9", "SZ", "ZV9", "S9.9", "+S9", "S9-", "S9CR", "$9V9", "9BS", "ZS9", "9.9V");
    }

    private static void signInHead() {
        CHECKS.sentence("HEAD: if there is exactly one + or - in all (both counted together) and it is the first symbol, "
            + "it belongs to the HEAD");
        SHAPES.edited("+9", 2, 1, 0, true);
        SHAPES.edited("-9", 2, 1, 0, true);
        SHAPES.edited("+ZZ9", 4, 3, 0, true);
        SHAPES.edited("-*", 2, 1, 0, true);
        SHAPES.edited("+.9", 3, 1, 1, true);
        SHAPES.none("+9+", "+9-", "-9+", "-9-", "+-9", "-+9", "+ZZ+", "9+9", "$+9");
        SHAPES.edited("++9", 3, 2, 0, true);
    }

    private static void dollarInHead() {
        CHECKS.sentence("if there is exactly one $ in all and it is the first symbol, or the second behind a sign of the "
            + "HEAD, it belongs to the HEAD");
        SHAPES.edited("$9", 2, 1, 0, false);
        SHAPES.edited("$Z", 2, 1, 0, false);
        SHAPES.edited("+$9", 3, 1, 0, true);
        SHAPES.edited("-$*9", 4, 2, 0, true);
        SHAPES.edited("$++9", 4, 2, 0, true);
        SHAPES.edited("$--", 3, 1, 0, true);
        SHAPES.edited("$$9", 3, 2, 0, false);
        SHAPES.edited("+$$9", 4, 2, 0, true);
        SHAPES.none("9$", "9$9", "Z$", "Z$9", "++$9", "--$", "$9$", "$Z$", "+9$", "+Z$9", "$+$9");
    }

    private static void signInTail() {
        CHECKS.sentence("TAIL: if there is exactly one + or - in all and it is the last symbol and not the first, it is "
            + "the TAIL");
        SHAPES.edited("9+", 2, 1, 0, true);
        SHAPES.edited("9-", 2, 1, 0, true);
        SHAPES.edited("$ZZ-", 4, 2, 0, true);
        SHAPES.edited("$$+", 3, 1, 0, true);
        SHAPES.edited("9.9B-", 5, 2, 1, true);
        SHAPES.edited("+++", 3, 2, 0, true);
        SHAPES.edited("--", 2, 1, 0, true);
        SHAPES.none("+", "-", "9+-", "9++", "9--", "9+9", "9-CR", "+9-", "$+", "$-");
    }

    private static void lettersInTail() {
        CHECKS.sentence("if there is no + or - at all and the last two symbols are CR or DB, these two are the TAIL");
        SHAPES.edited("9CR", 3, 1, 0, true);
        SHAPES.edited("9DB", 3, 1, 0, true);
        SHAPES.edited("$$CR", 4, 1, 0, true);
        SHAPES.edited("9BDB", 4, 1, 0, true);
        SHAPES.none("+9CR", "-9DB", "9+CR", "9CR+", "++9CR", "--DB", "9CR9", "CR9", "9CRCR", "9DBCR", "9CRB");
        SHAPES.none("9C", "9R", "9D", "9RC", "9BD", "9CB", "9DR", "9cr", "9db", "CR", "DB", "$CR");
    }

    private static void whatABodyIsMadeOf() {
        CHECKS.sentence("It is made of nines, at most one point, INSERTIONS (the symbols , B 0 /) and FILLERS alone, each "
            + "perhaps not there");
        SHAPES.edited("9B", 2, 1, 0, false);
        SHAPES.edited(".9", 2, 1, 1, false);
        SHAPES.edited("Z,", 2, 1, 0, false);
        SHAPES.edited("*0", 2, 1, 0, false);
        SHAPES.edited("9/", 2, 1, 0, false);
        SHAPES.edited("Z,B0/9.,B0/9", 12, 3, 1, false);
        SHAPES.none("9.9.9", ".9.", "..9", "9..9", "Z.9.9", "9;9", "9_9", "91", "9 9", "9b", "z9", "9:9", "9=", "X9", "9z", "9X");
    }

    private static void fillersAreTheSame() {
        CHECKS.sentence("all fillers are the same one of the symbols Z * $ + -");
        String fillers = "Z*$+-";
        for (int i = 0; i < 5; i++) {
            for (int k = 0; k < 5; k++) {
                char one = fillers.charAt(i);
                char other = fillers.charAt(k);
                if (i != k) {
                    SHAPES.none("" + one + one + other + other, "" + one + one + other + other + "9");
                    SHAPES.none("" + one + one + other + one + "9", "" + one + one + ',' + other + other + "9");
                }
            }
        }
        SHAPES.edited("ZZZ", 3, 3, 0, false);
        SHAPES.edited("***", 3, 3, 0, false);
        SHAPES.edited("$$$", 3, 2, 0, false);
        SHAPES.edited("+++", 3, 2, 0, true);
        SHAPES.edited("---", 3, 2, 0, true);
    }

    private static void bodyNotEmpty() {
        CHECKS.sentence("The body is not empty");
        SHAPES.none("+", "-", "$", "+$", "-$", "$+", "$-", "CR", "DB", "$CR", "$DB");
        SHAPES.edited("+$9", 3, 1, 0, true);
        SHAPES.edited("$9CR", 4, 1, 0, true);
    }

    private static void noInsertionFirst() {
        CHECKS.sentence("does not begin with an insertion");
        for (String insertion : new String[] {",", "B", "0", "/"}) {
            SHAPES.none(insertion, insertion + "9", insertion + "Z", insertion + "$$", insertion + ".9", insertion + "CR");
            SHAPES.none("+" + insertion + "9", "$" + insertion + "Z", "-$" + insertion + "9", insertion + "9-");
            SHAPES.edited("9" + insertion, 2, 1, 0, false);
            SHAPES.edited("." + insertion + "9", 3, 1, 1, false);
            SHAPES.edited("$Z" + insertion, 3, 1, 0, false);
        }
    }

    private static void fillersStandFirst() {
        CHECKS.sentence("all fillers stand before every nine and before the point");
        for (String filler : new String[] {"Z", "*", "$$", "++", "--"}) {
            SHAPES.none("9" + filler, "9" + filler + "9", "." + filler + "9", ".9" + filler, "9." + filler + "9");
            SHAPES.none(filler + "9" + filler, filler + "." + filler + "9", filler + ".9" + filler, "9B" + filler);
        }
        SHAPES.edited("ZZ.9", 4, 3, 1, false);
        SHAPES.edited("$$,$9.9", 7, 4, 1, false);
    }

    private static void nineBehindThePoint() {
        CHECKS.sentence("behind the point, if there is one, stands at least one nine");
        SHAPES.none("9.", "Z.", ".", "$$.", "9.B", "9.,0/", "+9.", "9.-", "9.CR", "$.", "Z.B");
        SHAPES.edited("9.9", 3, 2, 1, false);
        SHAPES.edited("Z.B9", 4, 2, 1, false);
        SHAPES.edited("9.9B", 4, 2, 1, false);
    }

    private static void twoFloating() {
        CHECKS.sentence("fillers $ + - are FLOATING, and there are at least two of them, if any");
        SHAPES.edited("$$", 2, 1, 0, false);
        SHAPES.edited("++", 2, 1, 0, true);
        SHAPES.edited("--", 2, 1, 0, true);
        SHAPES.edited("$,$", 3, 1, 0, false);
        SHAPES.edited("+B0/+", 5, 1, 0, true);
        SHAPES.none("$+9", "$-9", "$+.9", "$-B9", "$+9CR", "+9-", "+,-");
        SHAPES.edited("Z", 1, 1, 0, false);
        SHAPES.edited("*", 1, 1, 0, false);
    }

    private static void digitPlaces() {
        CHECKS.sentence("DIGIT PLACES are the nines, the fillers Z and *, and the floating fillers but the first one.");
        SHAPES.edited("9B9", 3, 2, 0, false);
        SHAPES.edited("ZZ9", 3, 3, 0, false);
        SHAPES.edited("**9", 3, 3, 0, false);
        SHAPES.edited("$$9", 3, 2, 0, false);
        SHAPES.edited("++9", 3, 2, 0, true);
        SHAPES.edited("--9", 3, 2, 0, true);
        SHAPES.edited("$$", 2, 1, 0, false);
        SHAPES.edited("$9", 2, 1, 0, false);
        SHAPES.edited("+9", 2, 1, 0, true);
        SHAPES.edited("9000", 4, 1, 0, false);
        PicturedRecord r = Records.with("$,$0$", 0);
        r.put(0, 987, 0);
        CHECKS.same("the first floating filler takes no digit", Records.text(r, 0, 5), " $807");
        Records.pokeText(r, 0, "9,807");
        CHECKS.same("nor shows one", r.value(0), PicturedRecord.NONE);
    }

    private static void editedDigits() {
        CHECKS.sentence("DIGITS is the number of digit places (1 .. 9)");
        SHAPES.edited("9B", 2, 1, 0, false);
        SHAPES.edited("$$", 2, 1, 0, false);
        for (int n = 2; n <= 9; n++) {
            SHAPES.edited("Z(" + n + ")", n, n, 0, false);
            SHAPES.edited("$(" + (n + 1) + ")", n + 1, n, 0, false);
            SHAPES.edited("9(" + n + ")/", n + 1, n, 0, false);
        }
        SHAPES.none("Z(10)", "*(10)", "$(11)", "+(11)", "-(11)", "9(10)B", "Z(9)9", "$(10)9", "Z(5).9(4)9", "9(9)B9");
        SHAPES.edited("Z(5).9(4)", 10, 9, 4, false);
    }

    private static void editedScale() {
        CHECKS.sentence("SCALE the number of nines behind the point (0 .. 4; 0 without a point)");
        SHAPES.edited("99999B", 6, 5, 0, false);
        SHAPES.edited("9999.9", 6, 5, 1, false);
        SHAPES.edited("999.99", 6, 5, 2, false);
        SHAPES.edited("99.999", 6, 5, 3, false);
        SHAPES.edited("9.9999", 6, 5, 4, false);
        SHAPES.edited(".9B9,9/9", 8, 4, 4, false);
        SHAPES.none(".99999", "9.99999", "Z.9(5)", ".9B9,9/90(2)9");
    }

    private static void editedSigned() {
        CHECKS.sentence("It is SIGNED if it has a sign in HEAD or TAIL (CR and DB too) or its fillers are + or -.");
        SHAPES.edited("+Z", 2, 1, 0, true);
        SHAPES.edited("-Z", 2, 1, 0, true);
        SHAPES.edited("+$9", 3, 1, 0, true);
        SHAPES.edited("Z+", 2, 1, 0, true);
        SHAPES.edited("Z-", 2, 1, 0, true);
        SHAPES.edited("ZCR", 3, 1, 0, true);
        SHAPES.edited("ZDB", 3, 1, 0, true);
        SHAPES.edited("++", 2, 1, 0, true);
        SHAPES.edited("--", 2, 1, 0, true);
        SHAPES.edited("$++", 3, 1, 0, true);
        SHAPES.edited("Z", 1, 1, 0, false);
        SHAPES.edited("**", 2, 2, 0, false);
        SHAPES.edited("$9", 2, 1, 0, false);
        SHAPES.edited("$$", 2, 1, 0, false);
        SHAPES.edited("9B", 2, 1, 0, false);
    }

    private static void allElse() {
        CHECKS.sentence("All else is no picture.");
        for (char c = 32; c <= 126; c++) {
            boolean alone = "9Z*".indexOf(c) >= 0;
            PicturedRecord r = new PicturedRecord();
            CHECKS.same("a draft of " + c, Records.make(r, "" + c, 0, 0), alone ? 0 : -1);
            boolean behindNine = "9V+-,B0/".indexOf(c) >= 0;
            PicturedRecord behind = new PicturedRecord();
            CHECKS.same("a draft of 9" + c, Records.make(behind, "9" + c, 0, 0), behindNine ? 0 : -1);
            boolean beforeNine = "9ZSV*$+-.".indexOf(c) >= 0;
            PicturedRecord before = new PicturedRecord();
            CHECKS.same("a draft of " + c + "9", Records.make(before, c + "9", 0, 0), beforeNine ? 0 : -1);
        }
    }
}
