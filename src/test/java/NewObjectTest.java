/** Promise 1: all bytes 0, an empty draft, no fields. */
public final class NewObjectTest {
    public static void main(String[] args) {
        Checks checks = new Checks();
        PicturedRecord r = new PicturedRecord();
        for (int p = 0; p < 64; p++) {
            checks.same("peek(" + p + ") of a new object", r.peek(p), 0);
        }
        checks.same("fields() of a new object", r.fields(), 0);
        checks.same("sizeErrors() of a new object", r.sizeErrors(), 0);
        checks.same("dataErrors() of a new object", r.dataErrors(), 0);
        checks.same("field of an empty draft", r.field(0, 0), -1);
        for (int i = 0; i < 24; i++) {
            checks.same("pic number " + i + " in a new draft", r.pic('9'), true);
        }
        objectsShareNothing(checks);
        checks.finish();
    }

    private static void objectsShareNothing(Checks checks) {
        PicturedRecord used = Records.with("9", Records.ZONED);
        used.poke(5, 77);
        used.pic('9');
        used.compute(3, 0, 0, 0, 0);
        PicturedRecord r = new PicturedRecord();
        checks.same("a byte of another object", r.peek(5), 0);
        checks.same("fields of another object", r.fields(), 0);
        checks.same("a draft of another object", r.field(0, 0), -1);
        checks.same("errors of another object", r.dataErrors(), 0);
    }
}
