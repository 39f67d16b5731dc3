/** Promise 4, what a picture is, with promises 6 and 7 telling what it is found to be. */
public final class PictureTest {
    private static final Checks CHECKS = new Checks();
    private static final Shapes SHAPES = new Shapes(CHECKS);

    public static void main(String[] args) {
        numericPictures();
        noNumericPictures();
        repetitions();
        noRepetitions();
        editedHeads();
        editedTails();
        editedBodies();
        noEditedPictures();
        limits();
        earlierDraftsLeaveNoTrace();
        CHECKS.finish();
    }

    private static void numericPictures() {
        SHAPES.numeric("9", 1, 0, false);
        SHAPES.numeric("S9", 1, 0, true);
        SHAPES.numeric("999999999", 9, 0, false);
        SHAPES.numeric("99V99", 4, 2, false);
        SHAPES.numeric("V9999", 4, 4, false);
        SHAPES.numeric("SV9", 1, 1, true);
        SHAPES.numeric("S99V", 2, 0, true);
        SHAPES.numeric("9V", 1, 0, false);
        SHAPES.numeric("S99999V9999", 9, 4, true);
    }

    private static void noNumericPictures() {
        SHAPES.none("", "S", "V", "SV", "SS9", "9S", "9S9", "VS9", "9V9V", "VV9", "S9V9V9", "9999999999",
            "V99999", "9V99999", "S9.9", "9V.9", "Z9V9", "SZ9", "V9,9", "s9", "9v9", "X", "9 9", " ", "A9");
    }

    private static void repetitions() {
        SHAPES.numeric("9(1)", 1, 0, false);
        SHAPES.numeric("9(9)", 9, 0, false);
        SHAPES.numeric("9(09)", 9, 0, false);
        SHAPES.numeric("S9(5)V9(04)", 9, 4, true);
        SHAPES.numeric("9(2)9(3)", 5, 0, false);
        SHAPES.numeric("99(3)", 4, 0, false);
        SHAPES.edited("Z(3)9", 4, 4, 0, false);
        SHAPES.edited("*(3)", 3, 3, 0, false);
        SHAPES.edited("$(3)", 3, 2, 0, false);
        SHAPES.edited("+(3)", 3, 2, 0, true);
        SHAPES.edited("-(3)", 3, 2, 0, true);
        SHAPES.edited("9,(2)9", 4, 2, 0, false);
        SHAPES.edited("9B(3)9", 5, 2, 0, false);
        SHAPES.edited("90(3)", 4, 1, 0, false);
        SHAPES.edited("9/(2)9", 4, 2, 0, false);
        SHAPES.edited("-(1)9", 2, 1, 0, true);
        SHAPES.edited("Z(9)B(9)", 18, 9, 0, false);
        SHAPES.edited("9B(17)", 18, 1, 0, false);
        SHAPES.edited("9(9)0(1)", 10, 9, 0, false);
        SHAPES.edited("9(1)0(2)9", 4, 2, 0, false);
    }

    private static void noRepetitions() {
        SHAPES.none("9(0)", "9(00)", "99(0)", "9(0)9", "9()", "9(1", "9(", "9)", "(9)", "9(1)(2)", "9(001)", "9(123)",
            "9( 1)", "9(-1)", "9(x)", "9((1))", "9(1))", "S(1)9", "V(1)9", "9V(1)9", "9.(1)9", "9C(1)R", "9D(1)B(1)R",
            "9CR(1)", ")9", "9(1)(", "9(9", "9(99)", "9B(18)", "9(10)", "B(0)9", "9(2(3)", "9(2)3)", "()", "9(1 )");
        SHAPES.none("9B(:)", "9B(/)", "9B(0:)", "9B(0/)", "9B(1/)", "9B(/5)", "9B(01(", "9B(019", "9B(012)", "9B(01");
    }

    private static void editedHeads() {
        SHAPES.edited("+9", 2, 1, 0, true);
        SHAPES.edited("-9", 2, 1, 0, true);
        SHAPES.edited("$9", 2, 1, 0, false);
        SHAPES.edited("+$9", 3, 1, 0, true);
        SHAPES.edited("-$9", 3, 1, 0, true);
        SHAPES.edited("+Z", 2, 1, 0, true);
        SHAPES.edited("$Z", 2, 1, 0, false);
        SHAPES.edited("$*9", 3, 2, 0, false);
        SHAPES.edited("$++9", 4, 2, 0, true);
        SHAPES.edited("$--", 3, 1, 0, true);
        SHAPES.edited("+$$9", 4, 2, 0, true);
        SHAPES.edited("-$$", 3, 1, 0, true);
        SHAPES.edited("$.9", 3, 1, 1, false);
        SHAPES.edited("+.9", 3, 1, 1, true);
    }

    private static void editedTails() {
        SHAPES.edited("9+", 2, 1, 0, true);
        SHAPES.edited("9-", 2, 1, 0, true);
        SHAPES.edited("9CR", 3, 1, 0, true);
        SHAPES.edited("9DB", 3, 1, 0, true);
        SHAPES.edited("$9-", 3, 1, 0, true);
        SHAPES.edited("$9CR", 4, 1, 0, true);
        SHAPES.edited("$$DB", 4, 1, 0, true);
        SHAPES.edited("$$9+", 4, 2, 0, true);
        SHAPES.edited("Z,-", 3, 1, 0, true);
        SHAPES.edited("9BDB", 4, 1, 0, true);
        SHAPES.edited("9BB", 3, 1, 0, false);
    }

    private static void editedBodies() {
        SHAPES.edited("Z", 1, 1, 0, false);
        SHAPES.edited("*", 1, 1, 0, false);
        SHAPES.edited("$$", 2, 1, 0, false);
        SHAPES.edited("++", 2, 1, 0, true);
        SHAPES.edited("--", 2, 1, 0, true);
        SHAPES.edited("9.9", 3, 2, 1, false);
        SHAPES.edited(".9", 2, 1, 1, false);
        SHAPES.edited(".9999", 5, 4, 4, false);
        SHAPES.edited("Z.9", 3, 2, 1, false);
        SHAPES.edited("ZZ,ZZ9.99", 9, 7, 2, false);
        SHAPES.edited("$$,$$9.99", 9, 6, 2, false);
        SHAPES.edited("+,+", 3, 1, 0, true);
        SHAPES.edited("$,B0/$", 6, 1, 0, false);
        SHAPES.edited("9,9", 3, 2, 0, false);
        SHAPES.edited("90", 2, 1, 0, false);
        SHAPES.edited("9/", 2, 1, 0, false);
        SHAPES.edited("Z,Z", 3, 2, 0, false);
        SHAPES.edited("Z,9", 3, 2, 0, false);
        SHAPES.edited("Z,.9", 4, 2, 1, false);
        SHAPES.edited("9.B9", 4, 2, 1, false);
        SHAPES.edited("9.9,9B", 6, 3, 2, false);
        SHAPES.edited("9.,0/B9", 7, 2, 1, false);
        SHAPES.edited("$(9)9", 10, 9, 0, false);
        SHAPES.edited("+(10)", 10, 9, 0, true);
        SHAPES.edited("Z(5).9(4)", 10, 9, 4, false);
    }

    private static void noEditedPictures() {
        SHAPES.none("+", "-", "$", "+$", "$+", "$-", "CR", "DB", "$CR", "+-", "-+", "+CR", "9+CR", "-9CR", "++9CR", "++CR");
        SHAPES.none("+9-", "+9+", "-9-", "$+9", "$-9", "9$", "9$9", "$9$", "Z$", "$Z$", "+Z+", "Z+Z", "9+9", "9-9", "+-9");
        SHAPES.none(",9", "B9", "09", "/9", "$,9", "+B9", "+$09", "-/9", ",", "B", "0", "/", "B+", ",CR");
        SHAPES.none("9.", "Z.", ".", "9.9.9", "..9", "9..9", ".,", "9.B", "9.Z", "Z.Z", ".Z9", ".Z", "9Z", "9*", "9++");
        SHAPES.none("9.++", "Z9Z", "Z*", "*Z9", "ZZ$$", "$$Z", "++--", "$$++9", "$++$9", "**$", "Z9$");
        SHAPES.none("9C", "9R", "9D", "9RC", "9BD", "9CRB", "9CR9", "CR9", "9DBCR", "9CB", "9DR", "9Cr", "9.9V", "S9CR");
    }

    private static void limits() {
        SHAPES.none("Z(10)", "*(9)9", "$(11)", "+(10)9", "9(5).9(5)", ".9(5)", "Z(9)B(10)", "9B(18)", "9(9).9", "Z(6).9999");
        SHAPES.none("9".repeat(18), "9".repeat(19), "$Z(9)B(9)", "Z(9)B(8)CR", "9(9)B(9)-");
        SHAPES.edited("$Z(9)B(8)", 18, 9, 0, false);
        SHAPES.edited("Z(9)B(7)CR", 18, 9, 0, true);
        SHAPES.edited("9(9)B(8)-", 18, 9, 0, true);
        SHAPES.edited("+$9(9)B(7)", 18, 9, 0, true);
    }

    private static void earlierDraftsLeaveNoTrace() {
        String[] refused = {
            "", "+9-", "$+", "Z*", "**.", "SV", "S9.9", "9V99999", "++--", ",9", "9(0)", "Z(9)9CR", "$$$."
        };
        String[] good = {"9", "S9V9", "9B", "9.9", "Z9", "$$", "+9", "9CR", "$9", "--9.99"};
        for (String first : refused) {
            for (String second : good) {
                PicturedRecord alone = Records.with(second, 0);
                PicturedRecord r = new PicturedRecord();
                CHECKS.same("field of " + first, Records.make(r, first, 0, 0), -1);
                CHECKS.same("field of " + second + " behind " + first, Records.make(r, second, 0, 0), 0);
                CHECKS.same("shape of " + second + " behind " + first, r.shape(0), alone.shape(0));
                CHECKS.same("size of " + second + " behind " + first, r.size(0), alone.size(0));
                alone.put(0, -12, 1);
                r.put(0, -12, 1);
                CHECKS.same("bytes of " + second + " behind " + first, Records.allBytes(r), Records.allBytes(alone));
            }
        }
    }
}
