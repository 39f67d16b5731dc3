/** All promises: many pictures and long runs of calls, compared with the model of the document. */
public final class ModelTest {
    private static final Checks CHECKS = new Checks();
    private static final String ALPHABET = "9Z*$+-,B0/.CRDSV()12";
    private static final String[] PICTURES = {
        "9", "S9", "99", "S99", "9(3)", "S9(4)", "S9(5)V99", "V9(4)", "SV99", "9(9)", "S9(9)", "S9(5)V9(4)", "9V9",
        "S9(8)", "S9(3)V9", "9(6)V99", "S99V9(3)", "ZZ9", "Z(4)", "***", "*,**9.9", "$$,$$9.99CR", "$$$", "+++",
        "---", "--,--9.9", "$++9", "+$$9", "-$ZZ9", "99/99", "Z09", "9B9DB", "+$9.99", "ZZ,ZZ9.99-", "$**.9", "++.99",
        "9.9B9+", "$0$0$", "Z(9)", "-(10)", "9(5).9(4)", "Z,Z", "**", "$$", "Z0Z0Z0Z9"
    };

    private static final int MOST_CALLS = 512;
    // A field takes at most a scrap, 24 characters and the making of it.
    private static final int CALLS_TO_MAKE = 26;
    private static final int CALLS_TO_COMPARE = 66 + 3 * 14 + 3;

    private static long state = 20260115L;

    public static void main(String[] args) {
        int longest = args.length > 0 ? Integer.parseInt(args[0]) : 4;
        int runs = args.length > 1 ? Integer.parseInt(args[1]) : 6000;
        everyShortPicture(longest);
        longerPictures(10 * runs);
        for (int run = 0; run < runs && !CHECKS.failed(); run++) {
            runOfCalls(run);
        }
        CHECKS.finish();
    }

    /** A fixed row of numbers: the same at every run of the test. */
    private static int below(int bound) {
        state = state * 6364136223846793005L + 1442695040888963407L;
        return (int) ((state >>> 33) % bound);
    }

    private static void everyShortPicture(int longest) {
        char[] draft = new char[longest];
        for (int length = 0; length <= longest; length++) {
            int limit = (int) Math.pow(ALPHABET.length(), length);
            for (int n = 0; n < limit; n++) {
                int left = n;
                for (int i = 0; i < length; i++) {
                    draft[i] = ALPHABET.charAt(left % ALPHABET.length());
                    left /= ALPHABET.length();
                }
                samePicture(new String(draft, 0, length));
            }
        }
    }

    private static void longerPictures(int count) {
        for (int n = 0; n < count; n++) {
            samePicture(mutated(PICTURES[below(PICTURES.length)]));
        }
    }

    private static String mutated(String picture) {
        StringBuilder changed = new StringBuilder(picture);
        int changes = below(4);
        for (int i = 0; i < changes; i++) {
            int at = below(changed.length() + 1);
            char c = ALPHABET.charAt(below(ALPHABET.length()));
            int kind = below(3);
            if (kind == 0 || at == changed.length()) {
                changed.insert(at, c);
            } else if (kind == 1) {
                changed.deleteCharAt(at);
            } else {
                changed.setCharAt(at, c);
            }
        }
        return changed.length() > 24 ? changed.substring(0, 24) : changed.toString();
    }

    private static void samePicture(String picture) {
        PicturedRecord r = new PicturedRecord();
        Records.draft(r, picture);
        Model m = new Model();
        for (char c : picture.toCharArray()) {
            m.pic(c);
        }
        CHECKS.same("field of " + picture, r.field(0, 0), m.field(0, 0));
        CHECKS.same("shape of " + picture, r.shape(0), m.shape(0));
        CHECKS.same("size of " + picture, r.size(0), m.size(0));
    }

    /** Compares answers call by call and the whole state at the end, all within the 512 calls. */
    private static void runOfCalls(int run) {
        PicturedRecord r = new PicturedRecord();
        Model m = new Model();
        int width = below(2) == 0 ? 64 : 24;
        int end = 100 + below(MOST_CALLS - CALLS_TO_COMPARE - 99);
        int calls = 0;
        for (int i = 0; calls + CALLS_TO_MAKE <= end; i++) {
            String where = "run " + run + " call " + calls + " ";
            if (m.fields() < 12 && below(12) == 0 || i < 4) {
                calls += makeField(where, r, m, width);
            } else {
                calls += anyCall(where, r, m, width);
            }
        }
        compareState("run " + run + " ", r, m);
    }

    /** How many calls it made. */
    private static int makeField(String where, PicturedRecord r, Model m, int width) {
        r.scrap();
        m.scrap();
        String picture = PICTURES[below(PICTURES.length)];
        if (below(4) == 0) {
            picture = mutated(picture);
        }
        for (char c : picture.toCharArray()) {
            CHECKS.same(where + "pic", r.pic(c), m.pic(c));
        }
        int usage = below(3) == 0 ? 0 : below(6) - 1;
        int offset = below(width + 2) - 1;
        CHECKS.same(where + "field of " + picture, r.field(usage, offset), m.field(usage, offset));
        return picture.length() + 2;
    }

    private static int someField(Model m) {
        return below(25) == 0 ? below(16) - 2 : below(Math.max(1, m.fields()));
    }

    private static int someMode() {
        return below(40) == 0 ? below(12) - 2 : below(8);
    }

    private static int someNumber() {
        int[] limits = {10, 100, 1000, 10000, 100000, 1000000000, Integer.MAX_VALUE};
        int limit = limits[below(limits.length)];
        int number = below(6) == 0 ? limit - 1 : below(limit);
        return below(2) == 0 ? number : -number - below(2);
    }

    private static int someByte() {
        String likely = "0123456789pqrstuvwxy+- *$.,/CRDB";
        int kind = below(4);
        if (kind == 0) {
            return below(280) - 10;
        }
        if (kind == 1) {
            return 16 * below(10) + 10 + below(6);
        }
        return likely.charAt(below(likely.length()));
    }

    /** How many calls it made. */
    private static int anyCall(String where, PicturedRecord r, Model m, int width) {
        int a = someField(m);
        int b = someField(m);
        int c = someField(m);
        int d = someField(m);
        int mode = someMode();
        String args = a + " " + b + " " + c + " " + d + " mode " + mode;
        switch (below(9)) {
            case 0:
            case 1:
                int v = someNumber();
                int scale = below(12) - 1;
                CHECKS.same(where + "put " + a + " " + v + " " + scale, r.put(a, v, scale), m.put(a, v, scale));
                break;
            case 2:
                CHECKS.same(where + "move " + args, r.move(a, b), m.move(a, b));
                break;
            case 3:
            case 4:
                int op = below(30) == 0 ? below(7) - 2 : below(4);
                String what = where + "compute op " + op + " " + args;
                CHECKS.same(what, r.compute(op, a, b, c, mode), m.compute(op, a, b, c, mode));
                break;
            case 5:
                CHECKS.same(where + "divide " + args, r.divide(a, b, c, d, mode), m.divide(a, b, c, d, mode));
                break;
            case 6:
                CHECKS.same(where + "addTo " + args, r.addTo(a, b, c, mode), m.addTo(a, b, c, mode));
                break;
            case 7:
                CHECKS.same(where + "total " + args, r.total(b, c, a, mode), m.total(b, c, a, mode));
                break;
            default:
                int p = below(30) == 0 ? below(70) - 3 : below(width);
                int value = someByte();
                CHECKS.same(where + "poke " + p + " " + value, r.poke(p, value), m.poke(p, value));
                break;
        }
        same(where, "value", a, r.value(a), m.value(a));
        same(where, "value", c, r.value(c), m.value(c));
        return 3;
    }

    private static void compareState(String where, PicturedRecord r, Model m) {
        for (int p = -1; p <= 64; p++) {
            same(where, "peek", p, r.peek(p), m.peek(p));
        }
        for (int f = -1; f <= 12; f++) {
            same(where, "value", f, r.value(f), m.value(f));
            same(where, "shape", f, r.shape(f), m.shape(f));
            same(where, "size", f, r.size(f), m.size(f));
        }
        same(where, "fields", 0, r.fields(), m.fields());
        same(where, "sizeErrors", 0, r.sizeErrors(), m.sizeErrors());
        same(where, "dataErrors", 0, r.dataErrors(), m.dataErrors());
    }

    /** Joins no texts while the answers are as due: there are millions of them. */
    private static void same(String where, String call, int argument, long got, long due) {
        CHECKS.same(got == due ? call : where + "then " + call + " " + argument, got, due);
    }
}
