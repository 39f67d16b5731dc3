/** One test for each sentence of promises 1 to 10: making fields, and looking at them and at bytes. */
public final class MakingSentencesTest {
    private static final Checks CHECKS = new Checks();
    private static final long NONE = 4000000000L;
    private static final int[] NOT_THERE = {Integer.MIN_VALUE, -12, -1, 2, 3, 11, 12, 64, 65536, Integer.MAX_VALUE};

    public static void main(String[] args) {
        newObject();
        picAppends();
        picRefuses();
        scrapEmpties();
        fieldIsMade();
        fieldChangesNoByte();
        fieldRefusesInOrder();
        fieldWithoutPicture();
        fieldWithoutUsage();
        fieldOutsideTheRecord();
        fieldBehindTwelve();
        fieldsAreCounted();
        sizes();
        shapes();
        peeks();
        pokes();
        pokesRefused();
        values();
        valuesThatAreNone();
        CHECKS.finish();
    }

    private static void newObject() {
        CHECKS.sentence("All bytes 0, an empty draft, no fields.");
        PicturedRecord r = new PicturedRecord();
        for (int p = 0; p <= 63; p++) {
            CHECKS.same("byte " + p, r.peek(p), 0);
        }
        CHECKS.same("fields", r.fields(), 0);
        CHECKS.same("size of field 0", r.size(0), -1);
        CHECKS.same("size errors", r.sizeErrors(), 0);
        CHECKS.same("data errors", r.dataErrors(), 0);
        CHECKS.same("the draft is no picture", r.field(0, 0), -1);
        r.pic('9');
        CHECKS.same("the first character makes the picture", r.field(0, 0), 0);
        CHECKS.same("its shape", r.shape(0), 1);
    }

    private static void picAppends() {
        CHECKS.sentence("Appends a character to the draft and answers true");
        PicturedRecord r = new PicturedRecord();
        String picture = "S9V99";
        for (int i = 0; i < picture.length(); i++) {
            CHECKS.same("pic of " + picture.charAt(i), r.pic(picture.charAt(i)), true);
        }
        CHECKS.same("field", r.field(0, 0), 0);
        CHECKS.same("all of them, in their order", r.shape(0), 3 + 32 + 256);
        CHECKS.same("the lowest character", r.pic((char) 32), true);
        CHECKS.same("the highest character", r.pic((char) 126), true);
        CHECKS.same("these are in the draft", r.field(0, 0), -1);
        r.pic('9');
        CHECKS.same("and stay in it", r.field(0, 0), -1);
    }

    private static void picRefuses() {
        CHECKS.sentence("false, changing nothing, when c is not 32 .. 126 or 24 are there.");
        for (int c : new int[] {0, 9, 10, 31, 127, 128, 160, 255, 256 + 57, 0x3939, 65535}) {
            PicturedRecord r = new PicturedRecord();
            r.pic('9');
            CHECKS.same("pic of code " + c, r.pic((char) c), false);
            CHECKS.same("field behind it", r.field(0, 0), 0);
            CHECKS.same("shape behind it", r.shape(0), 1);
        }
        PicturedRecord full = new PicturedRecord();
        Records.draft(full, "9(1)9(1)9(1)9(1)9(1)9(1)");
        for (int i = 0; i < 3; i++) {
            CHECKS.same("pic when 24 are there", full.pic('9'), false);
        }
        CHECKS.same("field of the 24", full.field(0, 0), 0);
        CHECKS.same("shape of the 24", full.shape(0), 6);
        CHECKS.same("pic when they are gone", full.pic('9'), true);
    }

    private static void scrapEmpties() {
        CHECKS.sentence("Makes the draft empty.");
        PicturedRecord r = new PicturedRecord();
        r.scrap();
        CHECKS.same("an empty draft scrapped", r.field(0, 0), -1);
        r.pic('9');
        r.scrap();
        CHECKS.same("one character scrapped", r.field(0, 0), -1);
        for (int i = 0; i < 24; i++) {
            r.pic('x');
        }
        r.scrap();
        for (int i = 0; i < 24; i++) {
            CHECKS.same("character " + i + " behind a full draft scrapped", r.pic('y'), true);
        }
        r.scrap();
        r.pic('9');
        CHECKS.same("field of what came behind scrap", r.field(0, 0), 0);
        CHECKS.same("its shape", r.shape(0), 1);
        r.scrap();
        CHECKS.same("scrap leaves the fields", r.fields(), 1);
    }

    private static void fieldIsMade() {
        CHECKS.sentence("Makes a field of the draft's picture with its first byte at offset, and empties the draft: the "
            + "field's number.");
        PicturedRecord r = new PicturedRecord();
        CHECKS.same("the first field", Records.make(r, "S9(3)V9", 2, 17), 0);
        CHECKS.same("the draft is empty", r.field(0, 0), -1);
        CHECKS.same("shape", r.shape(0), 4 + 16 + 256);
        CHECKS.same("size", r.size(0), 5);
        r.put(0, -5, 0);
        CHECKS.same("bytes at its offset", Records.text(r, 16, 7), "\0" + "0050-" + "\0");
        r.pic('9');
        CHECKS.same("the second field", r.field(0, 17), 1);
        CHECKS.same("its shape", r.shape(1), 1);
        CHECKS.same("its value", r.value(1), 0);
        CHECKS.same("an edited field", Records.make(r, "$$9.9", 0, 30), 2);
        CHECKS.same("another one", Records.make(r, "+ZZ", 0, 40), 3);
        r.put(2, 5, 0);
        CHECKS.same("each has a picture of its own", Records.text(r, 30, 5), " $5.0");
    }

    private static void fieldChangesNoByte() {
        CHECKS.sentence("No byte changes.");
        String[] pictures = {"S9(4)", "S9(4)", "S9(4)", "S9(4)", "$$9.99CR"};
        int[] usages = {0, 1, 2, 3, 0};
        for (int i = 0; i < pictures.length; i++) {
            PicturedRecord r = new PicturedRecord();
            for (int p = 0; p < 64; p++) {
                r.poke(p, 3 * p + 1);
            }
            String before = Records.allBytes(r);
            CHECKS.same("field of " + pictures[i], Records.make(r, pictures[i], usages[i], 30), 0);
            CHECKS.same("bytes behind it", Records.allBytes(r), before);
        }
    }

    private static void fieldRefusesInOrder() {
        CHECKS.sentence("Else, changing nothing, the first of these that holds");
        PicturedRecord r = new PicturedRecord();
        CHECKS.same("no picture, no usage, no place", Records.make(r, "9(0)", 4, 64), -1);
        CHECKS.same("no usage, no place", Records.make(r, "9", 4, 64), -2);
        CHECKS.same("a usage that does not go, no place", Records.make(r, "9", 2, 64), -2);
        CHECKS.same("no place", Records.make(r, "9", 0, 64), -3);
        for (int i = 0; i < 12; i++) {
            Records.make(r, "9", 0, i);
        }
        String before = Records.state(r);
        CHECKS.same("all of them", Records.make(r, "9(0)", 4, 64), -1);
        CHECKS.same("no picture, twelve there", Records.make(r, "", 0, 0), -1);
        CHECKS.same("all but the first", Records.make(r, "9", 4, 64), -2);
        CHECKS.same("no usage, twelve there", Records.make(r, "Z", 1, 0), -2);
        CHECKS.same("no place, twelve there", Records.make(r, "9", 0, 64), -3);
        CHECKS.same("twelve there", Records.make(r, "9", 0, 63), -4);
        CHECKS.same("what is there", Records.state(r), before);
        CHECKS.same("the draft stays at -4", r.field(2, 0), -2);
    }

    private static void fieldWithoutPicture() {
        CHECKS.sentence("-1 the draft is no picture");
        PicturedRecord r = new PicturedRecord();
        CHECKS.same("an empty draft", r.field(0, 0), -1);
        r.pic('9');
        r.pic('(');
        CHECKS.same("9(", r.field(0, 0), -1);
        r.pic('3');
        CHECKS.same("9(3", r.field(0, 0), -1);
        r.pic(')');
        CHECKS.same("9(3), for the draft stayed", r.field(0, 0), 0);
        CHECKS.same("its shape", r.shape(0), 3);
    }

    private static void fieldWithoutUsage() {
        CHECKS.sentence("-2 usage is not 0 .. 3 or does not go with the picture");
        for (int usage = -3; usage <= 7; usage++) {
            boolean known = usage >= 0 && usage <= 3;
            CHECKS.same("S9 usage " + usage, Records.make(new PicturedRecord(), "S9", usage, 0), known ? 0 : -2);
            boolean plain = known && usage != 2;
            CHECKS.same("9 usage " + usage, Records.make(new PicturedRecord(), "9", usage, 0), plain ? 0 : -2);
            CHECKS.same("+9 usage " + usage, Records.make(new PicturedRecord(), "+9", usage, 0), usage == 0 ? 0 : -2);
        }
        PicturedRecord r = new PicturedRecord();
        Records.draft(r, "9");
        CHECKS.same("the least usage", r.field(Integer.MIN_VALUE, 0), -2);
        CHECKS.same("the greatest usage", r.field(Integer.MAX_VALUE, 0), -2);
        CHECKS.same("the draft stayed", r.field(0, 0), 0);
    }

    private static void fieldOutsideTheRecord() {
        CHECKS.sentence("-3 the field does not lie within the record");
        String[] pictures = {"9", "S9(9)", "S9(9)", "S9(9)", "S9(9)", "S9(4)", "9B(17)"};
        int[] usages = {0, 0, 1, 2, 3, 3, 0};
        int[] sizes = {1, 9, 5, 10, 4, 2, 18};
        for (int i = 0; i < pictures.length; i++) {
            String what = pictures[i] + " usage " + usages[i];
            PicturedRecord r = new PicturedRecord();
            Records.draft(r, pictures[i]);
            CHECKS.same(what + " at -1", r.field(usages[i], -1), -3);
            CHECKS.same(what + " one too far", r.field(usages[i], 65 - sizes[i]), -3);
            CHECKS.same(what + " at 64", r.field(usages[i], 64), -3);
            CHECKS.same(what + " at the least", r.field(usages[i], Integer.MIN_VALUE), -3);
            CHECKS.same(what + " at the greatest", r.field(usages[i], Integer.MAX_VALUE), -3);
            CHECKS.same(what + " at the end, for the draft stayed", r.field(usages[i], 64 - sizes[i]), 0);
            r.put(0, 7, 0);
            CHECKS.same(what + " is of use at the end", r.value(0), 7);
            CHECKS.same(what + " at 0", Records.make(r, pictures[i], usages[i], 0), 1);
        }
    }

    private static void fieldBehindTwelve() {
        CHECKS.sentence("-4 there are 12 fields.");
        PicturedRecord r = new PicturedRecord();
        for (int i = 0; i < 12; i++) {
            CHECKS.same("field number " + i, Records.make(r, "9", 0, 0), i);
        }
        CHECKS.same("a thirteenth", Records.make(r, "9", 0, 0), -4);
        CHECKS.same("again", r.field(0, 0), -4);
        CHECKS.same("fields", r.fields(), 12);
        CHECKS.same("size of a thirteenth", r.size(12), -1);
    }

    private static void fieldsAreCounted() {
        CHECKS.sentence("How many fields there are.");
        PicturedRecord r = new PicturedRecord();
        for (int i = 0; i < 12; i++) {
            CHECKS.same("fields", r.fields(), i);
            Records.make(r, "9", 0, 64);
            CHECKS.same("fields behind a refusal", r.fields(), i);
            Records.make(r, "9", 0, i);
        }
        CHECKS.same("fields", r.fields(), 12);
        Records.make(r, "9", 0, 0);
        CHECKS.same("fields behind a thirteenth", r.fields(), 12);
    }

    private static void sizes() {
        CHECKS.sentence("How many bytes field f has; -1 if there is none.");
        PicturedRecord r = new PicturedRecord();
        CHECKS.same("size of 0 when there is none", r.size(0), -1);
        Records.make(r, "S9(7)", 0, 0);
        Records.make(r, "$$9.99", 0, 0);
        CHECKS.same("size of 0", r.size(0), 7);
        CHECKS.same("size of 1", r.size(1), 6);
        for (int f : NOT_THERE) {
            CHECKS.same("size of " + f, r.size(f), -1);
        }
        CHECKS.same("packed", Records.with("S9(7)", 1).size(0), 4);
        CHECKS.same("separate", Records.with("S9(7)", 2).size(0), 8);
        CHECKS.same("binary", Records.with("S9(7)", 3).size(0), 4);
    }

    private static void shapes() {
        CHECKS.sentence("The DIGITS of field f, plus 16 times its SCALE, plus 256 if it is signed, plus 512 if it is "
            + "edited; -1 if there is none.");
        PicturedRecord r = new PicturedRecord();
        CHECKS.same("shape of 0 when there is none", r.shape(0), -1);
        Records.make(r, "S9(5)V9(4)", 1, 0);
        Records.make(r, "ZZ9.9", 0, 0);
        CHECKS.same("shape of 0", r.shape(0), 9 + 64 + 256);
        CHECKS.same("shape of 1", r.shape(1), 4 + 16 + 512);
        for (int f : NOT_THERE) {
            CHECKS.same("shape of " + f, r.shape(f), -1);
        }
        CHECKS.same("the least shape", Records.with("9", 0).shape(0), 1);
        CHECKS.same("the greatest shape", Records.with("-(6).9(4)", 0).shape(0), 9 + 64 + 256 + 512);
    }

    private static void peeks() {
        CHECKS.sentence("The byte at place p, 0 .. 255; -1 if there is none.");
        PicturedRecord r = new PicturedRecord();
        r.poke(0, 255);
        r.poke(63, 128);
        CHECKS.same("place 0", r.peek(0), 255);
        CHECKS.same("place 1", r.peek(1), 0);
        CHECKS.same("place 63", r.peek(63), 128);
        for (int p : new int[] {Integer.MIN_VALUE, -1, 64, 65, 127, Integer.MAX_VALUE}) {
            CHECKS.same("place " + p, r.peek(p), -1);
        }
        PicturedRecord stored = Records.with("S9", 3);
        stored.put(0, -1, 0);
        CHECKS.same("a byte that a store made", stored.peek(0), 255);
    }

    private static void pokes() {
        CHECKS.sentence("The byte at place p becomes b");
        for (int p : new int[] {0, 1, 31, 62, 63}) {
            PicturedRecord r = new PicturedRecord();
            for (int b : new int[] {1, 255, 128, 127, 0}) {
                CHECKS.same("poke of " + b + " at " + p, r.poke(p, b), true);
                CHECKS.same("peek at " + p, r.peek(p), b);
            }
            CHECKS.same("the others stay", Records.allBytes(r), "00".repeat(64));
        }
    }

    private static void pokesRefused() {
        CHECKS.sentence("false, changing nothing, when there is none or b is not 0 .. 255.");
        PicturedRecord r = new PicturedRecord();
        r.poke(0, 7);
        r.poke(63, 9);
        String before = Records.allBytes(r);
        for (int p : new int[] {Integer.MIN_VALUE, -64, -1, 64, 65, Integer.MAX_VALUE}) {
            CHECKS.same("poke at " + p, r.poke(p, 5), false);
        }
        for (int b : new int[] {Integer.MIN_VALUE, -255, -1, 256, 512, Integer.MAX_VALUE}) {
            CHECKS.same("poke of " + b + " at 0", r.poke(0, b), false);
            CHECKS.same("poke of " + b + " at 63", r.poke(63, b), false);
            CHECKS.same("poke of " + b + " at 64", r.poke(64, b), false);
        }
        CHECKS.same("bytes", Records.allBytes(r), before);
    }

    private static void values() {
        CHECKS.sentence("The units of field f");
        for (int usage = 0; usage <= 3; usage++) {
            PicturedRecord r = Records.with("S9(5)V9(4)", usage);
            for (int units : new int[] {0, 1, -1, 999999999, -999999999, 123456789}) {
                r.put(0, units, 4);
                CHECKS.same("units in usage " + usage, r.value(0), units);
            }
        }
        PicturedRecord edited = Records.with("-(6).9(4)", 0);
        edited.put(0, -999999999, 4);
        CHECKS.same("units of an edited field", edited.value(0), -999999999);
    }

    private static void valuesThatAreNone() {
        CHECKS.sentence("NONE if there is none or it is not SOUND.");
        CHECKS.same("when there are no fields", new PicturedRecord().value(0), NONE);
        PicturedRecord r = Records.zoned("9", 7, "Z", 7);
        for (int f : NOT_THERE) {
            CHECKS.same("value of " + f, r.value(f), NONE);
        }
        r.poke(0, 'x');
        r.poke(1, 'x');
        CHECKS.same("zoned, not sound", r.value(0), NONE);
        CHECKS.same("edited, not sound", r.value(1), NONE);
        CHECKS.same("packed, not sound", Records.with("S9", 1).value(0), NONE);
        CHECKS.same("separate, not sound", Records.with("S9", 2).value(0), NONE);
        PicturedRecord binary = Records.with("9", 3);
        CHECKS.same("binary of zeros is sound", binary.value(0), 0);
        binary.poke(1, 10);
        CHECKS.same("binary, not sound", binary.value(0), NONE);
        CHECKS.same("value counts no errors", r.dataErrors(), 0);
    }
}
