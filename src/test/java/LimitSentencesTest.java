/** One test for each sentence of the introduction and of 'Terms' on the record, the draft and the fields. */
public final class LimitSentencesTest {
    private static final Checks CHECKS = new Checks();

    public static void main(String[] args) {
        fiveHundredAndTwelveCalls();
        sixtyFourBytes();
        bytesUpTo255();
        draftOfTwentyFour();
        fieldsInOrder();
        twelveFields();
        fieldsOverlap();
        noValue();
        CHECKS.finish();
    }

    private static void fiveHundredAndTwelveCalls() {
        CHECKS.sentence("An object is used for at most 512 calls after it has been made");
        PicturedRecord sums = new PicturedRecord();
        Records.make(sums, "999", 0, 0);
        Records.make(sums, "9", 0, 8);
        sums.put(0, 0, 0);
        sums.put(1, 1, 0);
        for (int call = 11; call <= 511; call++) {
            CHECKS.same("call number " + call, sums.compute(0, 0, 1, 0, 0), 0);
        }
        CHECKS.same("call number 512", sums.value(0), 501);

        PicturedRecord errors = new PicturedRecord();
        errors.pic('9');
        errors.field(0, 0);
        for (int call = 3; call <= 511; call++) {
            CHECKS.same("unsound call number " + call, errors.move(0, 0), -2);
        }
        CHECKS.same("data errors, call number 512", errors.dataErrors(), 509);

        PicturedRecord late = new PicturedRecord();
        for (int call = 1; call <= 509; call++) {
            late.scrap();
        }
        late.pic('9');
        CHECKS.same("a field made by call number 511", late.field(0, 63), 0);
        CHECKS.same("its size, call number 512", late.size(0), 1);
    }

    private static void sixtyFourBytes() {
        CHECKS.sentence("The RECORD has 64 bytes, at places 0 .. 63");
        PicturedRecord r = new PicturedRecord();
        for (int p = 0; p <= 63; p++) {
            CHECKS.same("poke at " + p, r.poke(p, 100 + p), true);
        }
        for (int p = 0; p <= 63; p++) {
            CHECKS.same("peek at " + p, r.peek(p), 100 + p);
        }
        for (int p : new int[] {Integer.MIN_VALUE, -64, -1, 64, 65, 128, Integer.MAX_VALUE}) {
            CHECKS.same("poke at " + p, r.poke(p, 1), false);
            CHECKS.same("peek at " + p, r.peek(p), -1);
        }
    }

    private static void bytesUpTo255() {
        CHECKS.sentence("each 0 .. 255");
        PicturedRecord r = new PicturedRecord();
        for (int b : new int[] {0, 1, 127, 128, 254, 255}) {
            CHECKS.same("poke of " + b, r.poke(9, b), true);
            CHECKS.same("peek behind poke of " + b, r.peek(9), b);
        }
        for (int b : new int[] {Integer.MIN_VALUE, -256, -128, -1, 256, 511, 65536, Integer.MAX_VALUE}) {
            CHECKS.same("poke of " + b, r.poke(9, b), false);
            CHECKS.same("peek behind poke of " + b, r.peek(9), 255);
        }
    }

    private static void draftOfTwentyFour() {
        CHECKS.sentence("The DRAFT is a text of at most 24 characters.");
        String longest = "9(1)9(1)9(1)9(1)9(1)9(1)";
        CHECKS.same("the characters of this test", longest.length(), 24);
        PicturedRecord r = new PicturedRecord();
        for (int i = 0; i < 24; i++) {
            CHECKS.same("character number " + (i + 1), r.pic(longest.charAt(i)), true);
        }
        CHECKS.same("character number 25", r.pic('9'), false);
        CHECKS.same("a picture of 24 characters", r.field(0, 0), 0);
        CHECKS.same("its shape", r.shape(0), 6);

        PicturedRecord cut = new PicturedRecord();
        Records.draft(cut, "9(1)9(1)9(1)9(1)9(01)9(1)");
        CHECKS.same("a picture of 25 characters lacks its last bracket", cut.field(0, 0), -1);
    }

    private static void fieldsInOrder() {
        CHECKS.sentence("FIELDS have numbers 0, 1, .. in the order in which they were made");
        PicturedRecord r = new PicturedRecord();
        CHECKS.same("the first", Records.make(r, "9(5)", 0, 40), 0);
        CHECKS.same("the second", Records.make(r, "9(2)", 0, 0), 1);
        CHECKS.same("one refused", Records.make(r, "9(4)", 0, 61), -3);
        CHECKS.same("the third", Records.make(r, "9(7)", 0, 20), 2);
        CHECKS.same("size of the first", r.size(0), 5);
        CHECKS.same("size of the second", r.size(1), 2);
        CHECKS.same("size of the third", r.size(2), 7);
        CHECKS.same("size of a fourth", r.size(3), -1);
    }

    private static void twelveFields() {
        CHECKS.sentence("at most 12 of them");
        PicturedRecord r = new PicturedRecord();
        for (int i = 0; i < 12; i++) {
            CHECKS.same("field number " + i, Records.make(r, "9", 0, i), i);
        }
        CHECKS.same("a thirteenth", Records.make(r, "9", 0, 12), -4);
        CHECKS.same("how many", r.fields(), 12);
        r.put(11, 7, 0);
        CHECKS.same("the twelfth is of use", r.value(11), 7);
        CHECKS.same("there is no thirteenth", r.put(12, 7, 0), false);
    }

    private static void fieldsOverlap() {
        CHECKS.sentence("they may overlap");
        PicturedRecord r = new PicturedRecord();
        CHECKS.same("one", Records.make(r, "9(4)", 0, 10), 0);
        CHECKS.same("the same place", Records.make(r, "9(4)", 0, 10), 1);
        CHECKS.same("a part of it", Records.make(r, "99", 0, 12), 2);
        CHECKS.same("half beside it", Records.make(r, "9(3)", 0, 8), 3);
        Records.pokeText(r, 8, "00");
        r.put(0, 1234, 0);
        CHECKS.same("the same place", r.value(1), 1234);
        CHECKS.same("a part of it", r.value(2), 34);
        CHECKS.same("half beside it", r.value(3), 1);
        r.put(2, 99, 0);
        CHECKS.same("the whole behind a store into its part", r.value(0), 1299);
    }

    private static void noValue() {
        CHECKS.sentence("`NONE = 4000000000L`: What value() answers when there is no value.");
        CHECKS.same("NONE", PicturedRecord.NONE, 4000000000L);
        PicturedRecord r = Records.with("9", 0);
        CHECKS.same("value of no field", r.value(1), 4000000000L);
        CHECKS.same("value of one not sound", r.value(0), 4000000000L);
    }
}
