/** Promise 10: value, with what is SOUND in each usage. */
public final class ValueTest {
    private static final Checks CHECKS = new Checks();
    private static final long NONE = 4000000000L;

    public static void main(String[] args) {
        CHECKS.same("NONE", PicturedRecord.NONE, NONE);
        noField();
        zoned();
        separate();
        packed();
        binary();
        edited();
        CHECKS.finish();
    }

    private static void hex(String picture, int usage, String bytes, long due) {
        PicturedRecord r = Records.with(picture, usage);
        Records.pokeHex(r, 0, bytes);
        CHECKS.same("value of " + picture + " usage " + usage + " bytes " + bytes, r.value(0), due);
        CHECKS.same("bytes behind value()", Records.hex(r, 0, bytes.length() / 2), bytes);
        CHECKS.same("value() is no data error", r.dataErrors(), 0);
    }

    private static void text(String picture, int usage, String text, long due) {
        PicturedRecord r = Records.with(picture, usage);
        Records.pokeText(r, 0, text);
        CHECKS.same("value of " + picture + " usage " + usage + " text [" + text + "]", r.value(0), due);
    }

    private static void noField() {
        PicturedRecord r = Records.with("9", 0);
        r.poke(0, '7');
        int[] others = {-1, 1, 12, Integer.MIN_VALUE, Integer.MAX_VALUE};
        for (int f : others) {
            CHECKS.same("value of field " + f, r.value(f), NONE);
        }
        CHECKS.same("value of field 0", r.value(0), 7);
    }

    private static void zoned() {
        text("9(3)", 0, "123", 123);
        text("9(9)", 0, "999999999", 999999999);
        text("S9V99", 0, "000", 0);
        text("S9(3)", 0, "123", 123);
        text("S9(3)", 0, "12s", -123);
        text("S9(3)", 0, "00p", 0);
        text("S9(3)", 0, "99y", -999);
        text("S9(3)", 0, "99z", NONE);
        text("S9(3)", 0, "99o", NONE);
        text("S9(3)", 0, "9s9", NONE);
        text("S9(3)", 0, "s99", NONE);
        text("9(3)", 0, "12s", NONE);
        text("9(3)", 0, "12/", NONE);
        text("9(3)", 0, "12:", NONE);
        text("9(3)", 0, "/23", NONE);
        text("9(3)", 0, "1:3", NONE);
        text("9(3)", 0, " 23", NONE);
        text("S9", 0, "q", -1);
        text("S9", 0, "1", 1);
        text("9", 0, "q", NONE);
        hex("9", 0, "00", NONE);
        hex("9", 0, "b0", NONE);
    }

    private static void separate() {
        text("S9(3)", 2, "123+", 123);
        text("S9(3)", 2, "123-", -123);
        text("S9(3)", 2, "000-", 0);
        text("S9V9", 2, "99-", -99);
        text("S9(3)", 2, "123 ", NONE);
        text("S9(3)", 2, "123,", NONE);
        text("S9(3)", 2, "123.", NONE);
        text("S9(3)", 2, "1234", NONE);
        text("S9(3)", 2, "12s+", NONE);
        text("S9(3)", 2, "12:+", NONE);
        text("S9(3)", 2, "/23+", NONE);
        text("S9(9)", 2, "999999999-", -999999999);
    }

    private static void packed() {
        hex("9(3)", 1, "123f", 123);
        hex("9(3)", 1, "123c", NONE);
        hex("9(3)", 1, "123d", NONE);
        hex("9(3)", 1, "123e", NONE);
        hex("9(3)", 1, "1239", NONE);
        long[] signs = {NONE, NONE, NONE, NONE, NONE, NONE, NONE, NONE, NONE, NONE, 123, -123, 123, -123, 123, 123};
        for (int half = 0; half < 16; half++) {
            hex("S9(3)", 1, "123" + Integer.toHexString(half), signs[half]);
        }
        hex("S9(3)", 1, "000d", 0);
        hex("S9(3)", 1, "12ac", NONE);
        hex("S9(3)", 1, "1f3c", NONE);
        hex("S9(3)", 1, "a23c", NONE);
        hex("S9(4)", 1, "01234c", 1234);
        hex("S9(4)", 1, "11234c", NONE);
        hex("S9(4)", 1, "10000c", NONE);
        hex("S9(4)", 1, "90000c", NONE);
        hex("S9(4)", 1, "a0000c", NONE);
        hex("9(2)", 1, "099f", 99);
        hex("9(2)", 1, "199f", NONE);
        hex("9", 1, "7f", 7);
        hex("S9(9)", 1, "999999999b", -999999999);
        hex("S9(8)", 1, "099999999d", -99999999);
        hex("S9(8)", 1, "199999999d", NONE);
    }

    private static void binary() {
        hex("9(4)", 3, "270f", 9999);
        hex("9(4)", 3, "2710", NONE);
        hex("9(4)", 3, "ffff", NONE);
        hex("9", 3, "0009", 9);
        hex("9", 3, "000a", NONE);
        hex("S9", 3, "fff7", -9);
        hex("S9", 3, "fff6", NONE);
        hex("S9", 3, "0009", 9);
        hex("S9", 3, "000a", NONE);
        hex("S9", 3, "ffff", -1);
        hex("S9(4)", 3, "d8f1", -9999);
        hex("S9(4)", 3, "d8f0", NONE);
        hex("S9(4)", 3, "8000", NONE);
        hex("9(5)", 3, "0001869f", 99999);
        hex("9(5)", 3, "000186a0", NONE);
        hex("9(9)", 3, "3b9ac9ff", 999999999);
        hex("9(9)", 3, "3b9aca00", NONE);
        hex("9(9)", 3, "ffffffff", NONE);
        hex("9(9)", 3, "ee6b2800", NONE);
        hex("S9(9)", 3, "c4653601", -999999999);
        hex("S9(9)", 3, "c4653600", NONE);
        hex("S9(9)", 3, "80000000", NONE);
        hex("S9(5)", 3, "ffffffff", -1);
    }

    private static void edited() {
        text("ZZ9", 0, "  0", 0);
        text("ZZ9", 0, " 12", 12);
        text("ZZ9", 0, "012", NONE);
        text("ZZ9", 0, " 02", NONE);
        text("ZZ9", 0, "1 2", NONE);
        text("ZZ9", 0, "102", 102);
        text("ZZ9", 0, "   ", NONE);
        text("ZZZ", 0, "   ", 0);
        text("ZZZ", 0, "  0", NONE);
        text("***", 0, "***", 0);
        text("***", 0, "**5", 5);
        text("***", 0, "  5", NONE);
        text("**,**9", 0, "*****7", 7);
        text("**,**9", 0, "**,**7", NONE);
        text("$$,$$9", 0, "    $7", 7);
        text("$$,$$9", 0, "   $17", 17);
        text("$$,$$9", 0, "  $117", 117);
        text("$$,$$9", 0, "$1,117", 1117);
        text("$$,$$9", 0, " $,117", NONE);
        text("$$,$$9", 0, "  $017", NONE);
        text("$$", 0, "  ", 0);
        text("$$", 0, "$4", 4);
        text("$$", 0, "$ ", NONE);
        text("$$", 0, "$0", NONE);
        text("++9", 0, " -3", -3);
        text("++9", 0, " +3", 3);
        text("++9", 0, " -0", NONE);
        text("++9", 0, "-03", NONE);
        text("--9", 0, "  3", 3);
        text("--9", 0, " -3", -3);
        text("--9", 0, "-33", -33);
        text("--9", 0, "+33", NONE);
        text("--", 0, "  ", 0);
        text("--", 0, "- ", NONE);
        text("9CR", 0, "3CR", -3);
        text("9CR", 0, "3  ", 3);
        text("9CR", 0, "0CR", NONE);
        text("9CR", 0, "3DB", NONE);
        text("9CR", 0, "3C ", NONE);
        text("9DB", 0, "3DB", -3);
        text("9-", 0, "3-", -3);
        text("9-", 0, "3 ", 3);
        text("9-", 0, "3+", NONE);
        text("9+", 0, "3+", 3);
        text("9+", 0, "3 ", NONE);
        text("9+", 0, "0-", NONE);
        text("+9", 0, "-3", -3);
        text("$9", 0, "$3", 3);
        text("$9", 0, " 3", NONE);
        text("9.99", 0, "1.23", 123);
        text("9.99", 0, "1,23", NONE);
        text("9B9", 0, "1 2", 12);
        text("9B9", 0, "1B2", NONE);
        text("909", 0, "102", 12);
        text("909", 0, "112", NONE);
        text("Z09", 0, "  2", 2);
        text("Z09", 0, "102", 12);
        text("99/99", 0, "31/12", 3112);
        hex("Z", 0, "00", NONE);
        hex("Z", 0, "b5", NONE);
    }
}
