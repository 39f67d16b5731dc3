/** Promises 4 to 7: making fields, and fields, size and shape. */
public final class FieldTest {
    private static final Checks CHECKS = new Checks();

    public static void main(String[] args) {
        sizesByUsage();
        usages();
        places();
        firstRefusalCounts();
        atMostTwelve();
        refusalsKeepTheDraft();
        noByteChanges();
        fieldsThatAreNotThere();
        CHECKS.finish();
    }

    private static void sizesByUsage() {
        int[] packed = {0, 1, 2, 2, 3, 3, 4, 4, 5, 5};
        for (int n = 1; n <= 9; n++) {
            String picture = "S9(" + n + ")";
            CHECKS.same("zoned " + n, Records.with(picture, Records.ZONED).size(0), n);
            CHECKS.same("packed " + n, Records.with(picture, Records.PACKED).size(0), packed[n]);
            CHECKS.same("separate " + n, Records.with(picture, Records.SEPARATE).size(0), n + 1);
            CHECKS.same("binary " + n, Records.with(picture, Records.BINARY).size(0), n <= 4 ? 2 : 4);
            CHECKS.same("shape " + n, Records.with(picture, Records.BINARY).shape(0), 256 + n);
        }
        CHECKS.same("packed without S", Records.with("9(4)", Records.PACKED).size(0), 3);
        CHECKS.same("binary without S", Records.with("9(5)", Records.BINARY).size(0), 4);
        CHECKS.same("edited", Records.with("$$,$$9.99CR", Records.ZONED).size(0), 11);
        CHECKS.same("edited shape", Records.with("$$,$$9.99CR", Records.ZONED).shape(0), 6 + 32 + 256 + 512);
    }

    private static void usages() {
        PicturedRecord r = new PicturedRecord();
        Records.draft(r, "9V9");
        CHECKS.same("usage -1", r.field(-1, 0), -2);
        CHECKS.same("usage 4", r.field(4, 0), -2);
        CHECKS.same("usage 5", r.field(5, 0), -2);
        CHECKS.same("usage of least int", r.field(Integer.MIN_VALUE, 0), -2);
        CHECKS.same("usage of greatest int", r.field(Integer.MAX_VALUE, 0), -2);
        CHECKS.same("2 without sign", r.field(2, 0), -2);
        CHECKS.same("1 without sign", r.field(1, 0), 0);
        CHECKS.same("3 without sign", Records.make(r, "9", 3, 0), 1);
        CHECKS.same("2 with sign", Records.make(r, "S9", 2, 0), 2);
        Records.draft(r, "+9");
        CHECKS.same("edited with 1", r.field(1, 0), -2);
        CHECKS.same("edited with 2", r.field(2, 0), -2);
        CHECKS.same("edited with 3", r.field(3, 0), -2);
        CHECKS.same("edited with 4", r.field(4, 0), -2);
        CHECKS.same("edited with 0", r.field(0, 0), 3);
        CHECKS.same("-2 of field is no data error", r.dataErrors(), 0);
    }

    private static void places() {
        PicturedRecord r = new PicturedRecord();
        Records.draft(r, "S9(4)");
        CHECKS.same("offset -1", r.field(0, -1), -3);
        CHECKS.same("offset 61", r.field(0, 61), -3);
        CHECKS.same("separate at 60", r.field(2, 60), -3);
        CHECKS.same("packed at 62", r.field(1, 62), -3);
        CHECKS.same("binary at 63", r.field(3, 63), -3);
        CHECKS.same("offset 64", r.field(3, 64), -3);
        CHECKS.same("greatest offset", r.field(0, Integer.MAX_VALUE), -3);
        CHECKS.same("least offset", r.field(0, Integer.MIN_VALUE), -3);
        CHECKS.same("binary at 62", r.field(3, 62), 0);
        CHECKS.same("packed at 61", Records.make(r, "S9(4)", 1, 61), 1);
        CHECKS.same("zoned at 60", Records.make(r, "S9(4)", 0, 60), 2);
        CHECKS.same("separate at 59", Records.make(r, "S9(4)", 2, 59), 3);
        CHECKS.same("edited at 60", Records.make(r, "ZZ9CR", 0, 60), -3);
        CHECKS.same("edited at 59", Records.make(r, "ZZ9CR", 0, 59), 4);
    }

    private static void firstRefusalCounts() {
        PicturedRecord r = new PicturedRecord();
        for (int i = 0; i < 12; i++) {
            Records.make(r, "9", 0, i);
        }
        CHECKS.same("all wrong", Records.make(r, "9(0)", 9, -1), -1);
        CHECKS.same("usage and what follows wrong", Records.make(r, "9", 9, -1), -2);
        CHECKS.same("separate without sign, place wrong", Records.make(r, "9", 2, 64), -2);
        CHECKS.same("place wrong, twelve there", Records.make(r, "9", 0, 64), -3);
        CHECKS.same("twelve there", Records.make(r, "9", 0, 63), -4);
    }

    private static void atMostTwelve() {
        PicturedRecord r = new PicturedRecord();
        for (int i = 0; i < 12; i++) {
            CHECKS.same("fields before " + i, r.fields(), i);
            CHECKS.same("field number " + i, Records.make(r, "S9(" + (i % 9 + 1) + ")", 0, i), i);
        }
        CHECKS.same("field number 12", Records.make(r, "9", 0, 0), -4);
        CHECKS.same("fields", r.fields(), 12);
        CHECKS.same("size of 12", r.size(12), -1);
        for (int i = 0; i < 12; i++) {
            CHECKS.same("size of " + i, r.size(i), i % 9 + 1);
            CHECKS.same("shape of " + i, r.shape(i), 256 + i % 9 + 1);
        }
    }

    private static void refusalsKeepTheDraft() {
        PicturedRecord r = new PicturedRecord();
        Records.draft(r, "9(");
        CHECKS.same("9(", r.field(0, 0), -1);
        r.pic('3');
        r.pic(')');
        CHECKS.same("9(3) with usage 7", r.field(7, 0), -2);
        CHECKS.same("9(3) at 62", r.field(0, 62), -3);
        r.pic('V');
        r.pic('9');
        CHECKS.same("9(3)V9", r.field(0, 0), 0);
        CHECKS.same("shape of 9(3)V9", r.shape(0), 4 + 16);
        CHECKS.same("the draft is empty then", r.field(0, 0), -1);
        r.pic('9');
        CHECKS.same("field of the next draft", r.field(0, 0), 1);
        CHECKS.same("shape of the next draft", r.shape(1), 1);
        CHECKS.same("shape of the first is as it was", r.shape(0), 4 + 16);
    }

    private static void noByteChanges() {
        PicturedRecord r = new PicturedRecord();
        for (int p = 0; p < 64; p++) {
            r.poke(p, 3 * p + 1);
        }
        String before = Records.allBytes(r);
        Records.make(r, "$$9.99", 0, 4);
        Records.make(r, "S9(5)", 1, 4);
        Records.make(r, "9(10)", 1, 4);
        CHECKS.same("bytes behind field()", Records.allBytes(r), before);
    }

    private static void fieldsThatAreNotThere() {
        PicturedRecord r = Records.with("9", 0);
        int[] others = {-1, 1, 2, 11, 12, 63, 64, Integer.MIN_VALUE, Integer.MAX_VALUE};
        for (int f : others) {
            CHECKS.same("size of " + f, r.size(f), -1);
            CHECKS.same("shape of " + f, r.shape(f), -1);
        }
    }
}
