/** Promise 11: put, which stores by MOVE, and how units stand in each usage. */
public final class PutTest {
    private static final Checks CHECKS = new Checks();

    public static void main(String[] args) {
        storedForms();
        digitsAreCut();
        scales();
        signs();
        refusals();
        onlyItsOwnBytes();
        CHECKS.finish();
    }

    private static void stores(String picture, int usage, int v, int scale, String due) {
        PicturedRecord r = Records.with(picture, usage);
        for (int p = 0; p < 64; p++) {
            r.poke(p, 0xEE);
        }
        String what = "put of " + v + " scale " + scale + " into " + picture + " usage " + usage;
        CHECKS.same(what, r.put(0, v, scale), true);
        CHECKS.same(what, Records.hex(r, 0, r.size(0)), due);
        CHECKS.same(what + ": errors", r.sizeErrors() + r.dataErrors(), 0);
    }

    private static void holds(String picture, int v, int scale, long due) {
        PicturedRecord r = Records.with(picture, 0);
        r.put(0, v, scale);
        CHECKS.same("put of " + v + " scale " + scale + " into " + picture, r.value(0), due);
    }

    private static void storedForms() {
        stores("9(3)", 0, 123, 0, "313233");
        stores("S9(3)", 0, 123, 0, "313233");
        stores("S9(3)", 0, -123, 0, "313273");
        stores("S9(3)", 0, -120, 0, "313270");
        stores("S9", 0, -9, 0, "79");
        stores("S9(3)", 2, 123, 0, "3132332b");
        stores("S9(3)", 2, -123, 0, "3132332d");
        stores("S9(3)", 2, 0, 0, "3030302b");
        stores("9(3)", 1, 123, 0, "123f");
        stores("S9(3)", 1, 123, 0, "123c");
        stores("S9(3)", 1, -123, 0, "123d");
        stores("S9(4)", 1, -1234, 0, "01234d");
        stores("9(2)", 1, 99, 0, "099f");
        stores("9", 1, 5, 0, "5f");
        stores("S9", 1, 0, 0, "0c");
        stores("S9(9)", 1, 987654321, 0, "987654321c");
        stores("S9(8)", 1, -87654321, 0, "087654321d");
        stores("9(4)", 3, 9999, 0, "270f");
        stores("S9(4)", 3, -9999, 0, "d8f1");
        stores("S9(1)", 3, -1, 0, "ffff");
        stores("9(5)", 3, 99999, 0, "0001869f");
        stores("S9(9)", 3, -999999999, 0, "c4653601");
        stores("S9(5)", 3, -2, 0, "fffffffe");
        stores("ZZ9.99-", 0, -1234, 2, "2031322e33342d");
    }

    private static void digitsAreCut() {
        holds("9(3)", 1234, 0, 234);
        holds("9(3)", 1000, 0, 0);
        holds("S9(3)", -1234, 0, -234);
        holds("S9V9", 1234, 1, 34);
        holds("9(9)", Integer.MAX_VALUE, 0, 147483647);
        holds("S9(9)", Integer.MIN_VALUE, 0, -147483648);
        holds("S9(5)V9(4)", Integer.MAX_VALUE, 0, 836470000);
        holds("S9(5)V9(4)", Integer.MIN_VALUE, 0, -836480000);
        int limit = 1;
        for (int n = 1; n <= 9; n++) {
            limit *= 10;
            holds("S9(" + n + ")", 1987654321, 0, 1987654321 % limit);
            holds("S9(" + n + ")", -1987654321, 0, -1987654321 % limit);
            holds("S9(" + n + ")", limit, 0, 0);
            holds("S9(" + n + ")", limit - 1, 0, limit - 1);
        }
        holds("V9(4)", Integer.MAX_VALUE, 0, 0);
        holds("V9(4)", Integer.MAX_VALUE, 4, 3647);
    }

    private static void scales() {
        holds("9(3)", 12345, 2, 123);
        holds("9(3)", 12399, 2, 123);
        holds("S9(3)", -12399, 2, -123);
        holds("9(3)V99", 123, 0, 12300);
        holds("9(3)V99", 123, 1, 1230);
        holds("9(3)V99", 123, 2, 123);
        holds("9(3)V99", 129, 3, 12);
        holds("9V9(4)", 1999999999, 9, 19999);
        holds("9V9(4)", 999999, 9, 9);
        holds("9V9(4)", 99999, 9, 0);
        holds("9", 2147483647, 9, 2);
        holds("9", 99, 9, 0);
        int divisor = 1;
        for (int scale = 0; scale <= 9; scale++) {
            holds("S9(9)", 987654321, scale, 987654321 / divisor);
            holds("S9(9)", -987654321, scale, -987654321 / divisor);
            divisor *= 10;
        }
    }

    private static void signs() {
        holds("9(3)", -123, 0, 123);
        stores("9(3)", 0, -123, 0, "313233");
        stores("9(3)", 1, -123, 0, "123f");
        stores("9(3)", 3, -123, 0, "007b");
        stores("S9(3)", 0, -1000, 0, "303030");
        stores("S9(3)", 1, -1000, 0, "000c");
        stores("S9(3)", 2, -1000, 0, "3030302b");
        stores("S9(3)", 3, -1000, 0, "0000");
        stores("S9(3)", 0, -9, 1, "303030");
        stores("+99", 0, -100, 0, "2b3030");
        stores("Z9", 0, -7, 0, "2037");
    }

    private static void refusals() {
        PicturedRecord r = Records.with("9(3)", 0);
        r.put(0, 77, 0);
        String before = Records.allBytes(r);
        int[] others = {-1, 1, 12, Integer.MIN_VALUE, Integer.MAX_VALUE};
        for (int f : others) {
            CHECKS.same("put into field " + f, r.put(f, 5, 0), false);
        }
        int[] scales = {-1, 10, 11, Integer.MIN_VALUE, Integer.MAX_VALUE};
        for (int scale : scales) {
            CHECKS.same("put with scale " + scale, r.put(0, 5, scale), false);
        }
        CHECKS.same("bytes behind refusals", Records.allBytes(r), before);
        for (int scale = 0; scale <= 9; scale++) {
            CHECKS.same("put with scale " + scale, r.put(0, 5, scale), true);
        }
    }

    private static void onlyItsOwnBytes() {
        for (int usage = 0; usage <= 3; usage++) {
            PicturedRecord r = new PicturedRecord();
            int f = Records.make(r, "S9(5)", usage, 10);
            for (int p = 0; p < 64; p++) {
                r.poke(p, 200);
            }
            r.put(f, -12345, 0);
            for (int p = 0; p < 64; p++) {
                boolean inside = p >= 10 && p < 10 + r.size(f);
                CHECKS.same("usage " + usage + " wrote place " + p, r.peek(p) != 200, inside);
            }
        }
    }
}
