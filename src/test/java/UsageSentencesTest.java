import java.util.HashMap;
import java.util.Map;

/** One test for each sentence of 'Terms' on the usages, how units are stored and when a field is SOUND. */
public final class UsageSentencesTest {
    private static final Checks CHECKS = new Checks();
    private static final long NONE = 4000000000L;
    private static final int[] TENS = {1, 10, 100, 1000, 10000, 100000, 1000000, 10000000, 100000000, 1000000000};

    public static void main(String[] args) {
        fourUsages();
        editedGoesWithZonedAlone();
        separateNeedsASign();
        unitsAreScaled();
        unitsHaveLimits();
        noNegativeNumbersWithoutSign();
        zonedIsStored();
        zonedIsSound();
        zonedSignedIsSound();
        separateIsStored();
        separateIsSound();
        packedIsStored();
        packedSigns();
        packedDigits();
        packedIsSoundInItsDigits();
        packedIsSoundInFront();
        packedIsSoundInItsSign();
        binarySizes();
        binaryIsStored();
        binaryIsSound();
        editedIsStored();
        editedIsSound();
        CHECKS.finish();
    }

    private static void stores(String picture, int usage, int units, String due) {
        PicturedRecord r = Records.with(picture, usage);
        for (int p = 0; p < 20; p++) {
            r.poke(p, 0xEE);
        }
        r.put(0, units, r.shape(0) / 16 % 16);
        String what = units + " in " + picture + " usage " + usage;
        CHECKS.same("size of " + what, r.size(0), due.length() / 2);
        CHECKS.same("bytes of " + what, Records.hex(r, 0, due.length() / 2), due);
        CHECKS.same("the byte behind " + what, r.peek(due.length() / 2), 0xEE);
    }

    private static void reads(String picture, int usage, String bytes, long due) {
        PicturedRecord r = Records.with(picture, usage);
        Records.pokeHex(r, 0, bytes);
        CHECKS.same("value of " + picture + " usage " + usage + " in " + bytes, r.value(0), due);
    }

    private static String two(int b) {
        return String.format("%02x", b);
    }

    private static void fourUsages() {
        CHECKS.sentence("USAGES: 0 ZONED, 1 PACKED, 2 SEPARATE, 3 BINARY.");
        PicturedRecord r = new PicturedRecord();
        Records.draft(r, "S9(4)");
        for (int usage : new int[] {Integer.MIN_VALUE, -1, 4, 5, 256, Integer.MAX_VALUE}) {
            CHECKS.same("usage " + usage, r.field(usage, 0), -2);
        }
        stores("S9(4)", 0, 1234, "31323334");
        stores("S9(4)", 1, 1234, "01234c");
        stores("S9(4)", 2, 1234, "313233342b");
        stores("S9(4)", 3, 1234, "04d2");
    }

    private static void editedGoesWithZonedAlone() {
        CHECKS.sentence("An edited picture goes with 0 alone, and is stored as edited text whatever is said of ZONED");
        PicturedRecord r = new PicturedRecord();
        Records.draft(r, "--9");
        CHECKS.same("edited with 1", r.field(1, 0), -2);
        CHECKS.same("edited with 2", r.field(2, 0), -2);
        CHECKS.same("edited with 3", r.field(3, 0), -2);
        CHECKS.same("edited with 0", r.field(0, 0), 0);
        r.put(0, -7, 0);
        CHECKS.same("no 64 is added to its last byte", Records.text(r, 0, 3), " -7");
        Records.pokeText(r, 0, "00w");
        CHECKS.same("what would be sound in a zoned field", r.value(0), NONE);
    }

    private static void separateNeedsASign() {
        CHECKS.sentence("2 needs a signed picture");
        PicturedRecord r = new PicturedRecord();
        CHECKS.same("2 without S", Records.make(r, "9(4)", 2, 0), -2);
        CHECKS.same("2 with V alone", Records.make(r, "9V9", 2, 0), -2);
        CHECKS.same("2 with S", Records.make(r, "S9(4)", 2, 0), 0);
        CHECKS.same("0 without S", Records.make(r, "9(4)", 0, 0), 1);
        CHECKS.same("1 without S", Records.make(r, "9(4)", 1, 0), 2);
        CHECKS.same("3 without S", Records.make(r, "9(4)", 3, 0), 3);
    }

    private static void unitsAreScaled() {
        CHECKS.sentence("A field's UNITS are its value times 10 to the SCALE");
        for (int scale = 0; scale <= 4; scale++) {
            String decimals = scale == 0 ? "" : "V9(" + scale + ")";
            PicturedRecord r = Records.with("S9(5)" + decimals, 0);
            r.put(0, -12, 0);
            CHECKS.same("units of -12 with " + scale + " decimals", r.value(0), -12L * TENS[scale]);
        }
    }

    private static void unitsHaveLimits() {
        CHECKS.sentence("a whole number between -(10 to the DIGITS) and 10 to the DIGITS, both left out");
        for (int usage = 0; usage <= 3; usage++) {
            for (int n = 1; n <= 9; n++) {
                PicturedRecord r = Records.with("S9(" + n + ")", usage);
                String what = n + " digits in usage " + usage;
                r.put(0, TENS[n] - 1, 0);
                CHECKS.same("the greatest of " + what, r.value(0), TENS[n] - 1);
                r.put(0, 1 - TENS[n], 0);
                CHECKS.same("the least of " + what, r.value(0), 1 - TENS[n]);
                r.put(0, TENS[n], 0);
                CHECKS.same("one more than the greatest of " + what, r.value(0), 0);
                r.put(0, -TENS[n], 0);
                CHECKS.same("one less than the least of " + what, r.value(0), 0);
            }
        }
    }

    private static void noNegativeNumbersWithoutSign() {
        CHECKS.sentence("A field that is not signed holds no negative numbers.");
        stores("9(3)", 0, -123, "313233");
        stores("9(3)", 1, -123, "123f");
        stores("9(3)", 3, -123, "007b");
        stores("Z9B", 0, -7, "203720");
        reads("9(3)", 0, "313273", NONE);
        reads("9(3)", 1, "123d", NONE);
        reads("9", 3, "ffff", NONE);
        reads("9(5)", 3, "ffffffff", NONE);
        reads("9(9)", 3, "fffffffe", NONE);
    }

    private static void zonedIsStored() {
        CHECKS.sentence("ZONED: n bytes, the codes 48 .. 57 of the digits of u without sign, the highest first; if u is "
            + "negative, 64 is added to the last byte.");
        stores("9(3)", 0, 907, "393037");
        stores("S9(3)", 0, 907, "393037");
        stores("S9(3)", 0, -907, "393077");
        stores("S9(3)", 0, -900, "393070");
        stores("S9(3)", 0, 0, "303030");
        stores("S9", 0, -9, "79");
        stores("S9(9)", 0, -123456789, "313233343536373879");
        stores("9(9)", 0, 7, "303030303030303037");
    }

    private static void zonedIsSound() {
        CHECKS.sentence("SOUND if all bytes are 48 .. 57");
        for (int b = 0; b <= 255; b++) {
            boolean digit = b >= 48 && b <= 57;
            reads("9(3)", 0, two(b) + "3233", digit ? 100 * (b - 48) + 23 : NONE);
            reads("9(3)", 0, "31" + two(b) + "33", digit ? 103 + 10 * (b - 48) : NONE);
            reads("9(3)", 0, "3132" + two(b), digit ? 120 + b - 48 : NONE);
            reads("S9(3)", 0, two(b) + "3233", digit ? 100 * (b - 48) + 23 : NONE);
            reads("S9(3)", 0, "31" + two(b) + "33", digit ? 103 + 10 * (b - 48) : NONE);
        }
    }

    private static void zonedSignedIsSound() {
        CHECKS.sentence("but in a signed field the last one may be 112 .. 121 instead (then the number is negative, or 0)");
        for (int b = 0; b <= 255; b++) {
            long due = NONE;
            if (b >= 48 && b <= 57) {
                due = 120 + b - 48;
            } else if (b >= 112 && b <= 121) {
                due = -(120 + b - 112);
            }
            reads("S9(3)", 0, "3132" + two(b), due);
        }
        reads("S9(3)", 0, "303070", 0);
        reads("S9", 0, "70", 0);
        reads("S9", 0, "71", -1);
        reads("9", 0, "71", NONE);
    }

    private static void separateIsStored() {
        CHECKS.sentence("SEPARATE: as ZONED without the 64, and one byte more behind: 43, or 45 if u is negative.");
        stores("S9(3)", 2, 123, "3132332b");
        stores("S9(3)", 2, -123, "3132332d");
        stores("S9(3)", 2, 0, "3030302b");
        stores("S9", 2, -9, "392d");
        stores("S9(9)", 2, -999999999, "3939393939393939392d");
    }

    private static void separateIsSound() {
        CHECKS.sentence("SOUND if the digits are 48 .. 57 and the last byte is 43 or 45.");
        for (int b = 0; b <= 255; b++) {
            boolean digit = b >= 48 && b <= 57;
            reads("S9(2)", 2, two(b) + "322b", digit ? 10 * (b - 48) + 2 : NONE);
            reads("S9(2)", 2, "31" + two(b) + "2d", digit ? -(10 + b - 48) : NONE);
            long signed = b == 45 ? -12 : NONE;
            reads("S9(2)", 2, "3132" + two(b), b == 43 ? 12 : signed);
        }
        reads("S9(2)", 2, "30302d", 0);
    }

    private static void packedIsStored() {
        CHECKS.sentence("PACKED: n / 2 + 1 bytes (n / 2 cut to a whole number), each two halves, the upper half (byte / 16) "
            + "first.");
        int[] sizes = {0, 1, 2, 2, 3, 3, 4, 4, 5, 5};
        for (int n = 1; n <= 9; n++) {
            CHECKS.same("bytes for " + n, Records.with("S9(" + n + ")", 1).size(0), sizes[n]);
            CHECKS.same("bytes for " + n + " without S", Records.with("9(" + n + ")", 1).size(0), sizes[n]);
        }
        stores("S9", 1, 7, "7c");
        stores("S9(3)", 1, 123, "123c");
        stores("S9(9)", 1, 123456789, "123456789c");
    }

    private static void packedSigns() {
        CHECKS.sentence("The last half is the sign: 15 in a field that is not signed, else 13 if u is negative, 12 if not.");
        stores("9(3)", 1, 123, "123f");
        stores("9(3)", 1, 0, "000f");
        stores("S9(3)", 1, -123, "123d");
        stores("S9(3)", 1, 123, "123c");
        stores("S9(3)", 1, 0, "000c");
    }

    private static void packedDigits() {
        CHECKS.sentence("The halves before it are the digits of u, the highest first, with one more 0 in front if n is even.");
        stores("S9(2)", 1, -98, "098d");
        stores("9(4)", 1, 9876, "09876f");
        stores("S9(6)", 1, 987654, "0987654c");
        stores("S9(8)", 1, -98765432, "098765432d");
        stores("S9(5)", 1, 98765, "98765c");
        stores("S9(4)", 1, 12, "00012c");
    }

    private static void packedIsSoundInItsDigits() {
        CHECKS.sentence("SOUND if all halves but the last are 0 .. 9");
        for (int half = 0; half <= 15; half++) {
            String h = Integer.toHexString(half);
            reads("S9(3)", 1, h + "23c", half <= 9 ? 100 * half + 23 : NONE);
            reads("S9(3)", 1, "1" + h + "3c", half <= 9 ? 103 + 10 * half : NONE);
            reads("S9(3)", 1, "12" + h + "c", half <= 9 ? 120 + half : NONE);
            reads("9(3)", 1, "12" + h + "f", half <= 9 ? 120 + half : NONE);
        }
        reads("S9(9)", 1, "999999999c", 999999999);
        reads("S9(9)", 1, "99999999ac", NONE);
    }

    private static void packedIsSoundInFront() {
        CHECKS.sentence("the half in front is 0 if n is even");
        for (int half = 0; half <= 15; half++) {
            String h = Integer.toHexString(half);
            reads("S9(2)", 1, h + "12d", half == 0 ? -12 : NONE);
            reads("9(4)", 1, h + "0000f", half == 0 ? 0 : NONE);
            reads("S9(8)", 1, h + "99999999c", half == 0 ? 99999999 : NONE);
            reads("S9(3)", 1, h + "12c", half <= 9 ? 100 * half + 12 : NONE);
        }
    }

    private static void packedIsSoundInItsSign() {
        CHECKS.sentence("the last half is 15 in a field that is not signed, 10 .. 15 in a signed one: there 11 and 13 say "
            + "that the number is negative (or 0), the others that it is not.");
        for (int half = 0; half <= 15; half++) {
            String h = Integer.toHexString(half);
            long magnitude = half == 11 || half == 13 ? -123 : 123;
            reads("S9(3)", 1, "123" + h, half >= 10 ? magnitude : NONE);
            reads("S9(3)", 1, "000" + h, half >= 10 ? 0 : NONE);
            reads("9(3)", 1, "123" + h, half == 15 ? 123 : NONE);
        }
    }

    private static void binarySizes() {
        CHECKS.sentence("BINARY: 2 bytes if n is at most 4, else 4");
        for (int n = 1; n <= 9; n++) {
            CHECKS.same("bytes for " + n, Records.with("S9(" + n + ")", 3).size(0), n <= 4 ? 2 : 4);
            CHECKS.same("bytes for " + n + " without S", Records.with("9(" + n + ")", 3).size(0), n <= 4 ? 2 : 4);
        }
    }

    private static void binaryIsStored() {
        CHECKS.sentence("the highest byte first; two's complement in a signed field, a plain number without sign in "
            + "another.");
        stores("9(4)", 3, 258, "0102");
        stores("S9(4)", 3, -1, "ffff");
        stores("S9(4)", 3, -9999, "d8f1");
        stores("9(9)", 3, 16909060, "01020304");
        stores("S9(9)", 3, -2, "fffffffe");
        stores("S9(9)", 3, -999999999, "c4653601");
        reads("S9(4)", 3, "ffff", -1);
        reads("S9(4)", 3, "fefe", -258);
        reads("S9(5)", 3, "fffe7961", -99999);
        reads("9(4)", 3, "0102", 258);
        reads("9(9)", 3, "3b9ac9ff", 999999999);
    }

    private static void binaryIsSound() {
        CHECKS.sentence("SOUND if that number is less than 10 to the n without its sign.");
        for (int n = 1; n <= 9; n++) {
            int limit = TENS[n];
            String form = n <= 4 ? "%04x" : "%08x";
            int mask = n <= 4 ? 0xffff : -1;
            for (int units : new int[] {0, limit - 1, limit, limit + 1}) {
                long due = units < limit ? units : NONE;
                reads("9(" + n + ")", 3, String.format(form, units), due);
                reads("S9(" + n + ")", 3, String.format(form, units), due);
                reads("S9(" + n + ")", 3, String.format(form, -units & mask), due == NONE ? NONE : -units);
            }
            String wide = n <= 4 ? "" : "0000";
            reads("S9(" + n + ")", 3, "8000" + wide, NONE);
            reads("S9(" + n + ")", 3, "7fff" + wide.replace('0', 'f'), NONE);
            reads("9(" + n + ")", 3, "8000" + wide, NONE);
            reads("9(" + n + ")", 3, "ffff" + wide.replace('0', 'f'), NONE);
        }
    }

    private static void editedIsStored() {
        CHECKS.sentence("EDITED: as many bytes as symbols, the codes of the characters that EDITING gives.");
        stores("9B", 0, 7, "3720");
        stores("$$,$$9.99CR", 0, -123456, "24312c3233342e35364352");
        CHECKS.same("repetitions are symbols written out", Records.with("9B(17)", 0).size(0), 18);
        stores("9B(17)", 0, 7, "37" + "20".repeat(17));
    }

    /** Every text of three characters: those that the formats give are sound, and no others. */
    private static void editedIsSound() {
        CHECKS.sentence("SOUND if they are what editing gives for some units that the field can hold; these are its units "
            + "then.");
        soundTexts("ZZ9", "%3d", 0, 999);
        soundTexts("--9", "%3d", -99, 99);
        soundTexts("++9", "%+3d", -99, 99);
        soundTexts("+99", "%+03d", -99, 99);
        soundTexts("9.9", null, 0, 99);
    }

    private static void soundTexts(String picture, String format, int least, int most) {
        Map<String, Integer> texts = new HashMap<>();
        for (int units = least; units <= most; units++) {
            String text = format == null ? units / 10 + "." + units % 10 : String.format(format, units);
            texts.put(text, units);
        }
        String characters = "0123456789 +-.*$B\u0000\u0070\u00b5";
        for (int i = 0; i < 8000; i++) {
            String text = "" + characters.charAt(i / 400) + characters.charAt(i / 20 % 20) + characters.charAt(i % 20);
            PicturedRecord r = Records.with(picture, 0);
            Records.pokeText(r, 0, text);
            long due = texts.containsKey(text) ? texts.get(text) : NONE;
            CHECKS.same("value of " + picture + " in [" + text + "]", r.value(0), due);
        }
    }
}
