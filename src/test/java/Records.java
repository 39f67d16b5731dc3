/** Short ways to set up a record and to look at its bytes. */
final class Records {
    static final int ZONED = 0;
    static final int PACKED = 1;
    static final int SEPARATE = 2;
    static final int BINARY = 3;

    private Records() {
    }

    static void draft(PicturedRecord r, String picture) {
        r.scrap();
        for (int i = 0; i < picture.length(); i++) {
            r.pic(picture.charAt(i));
        }
    }

    static int make(PicturedRecord r, String picture, int usage, int offset) {
        draft(r, picture);
        return r.field(usage, offset);
    }

    /** A record with one field, number 0, at place 0. */
    static PicturedRecord with(String picture, int usage) {
        PicturedRecord r = new PicturedRecord();
        make(r, picture, usage, 0);
        return r;
    }

    /** Zoned fields side by side, each a picture and the units that are put into it. */
    static PicturedRecord zoned(Object... picturesAndUnits) {
        PicturedRecord r = new PicturedRecord();
        int offset = 0;
        for (int i = 0; i < picturesAndUnits.length; i += 2) {
            int f = make(r, (String) picturesAndUnits[i], ZONED, offset);
            int scale = r.shape(f) / 16 % 16;
            r.put(f, (Integer) picturesAndUnits[i + 1], scale);
            offset += r.size(f);
        }
        return r;
    }

    static void pokeText(PicturedRecord r, int start, String text) {
        for (int i = 0; i < text.length(); i++) {
            r.poke(start + i, text.charAt(i));
        }
    }

    static void pokeHex(PicturedRecord r, int start, String hex) {
        for (int i = 0; i + 1 < hex.length(); i += 2) {
            r.poke(start + i / 2, Integer.parseInt(hex.substring(i, i + 2), 16));
        }
    }

    static String text(PicturedRecord r, int start, int count) {
        StringBuilder found = new StringBuilder();
        for (int i = start; i < start + count; i++) {
            found.append((char) r.peek(i));
        }
        return found.toString();
    }

    static String hex(PicturedRecord r, int start, int count) {
        StringBuilder found = new StringBuilder();
        for (int i = start; i < start + count; i++) {
            found.append(String.format("%02x", r.peek(i)));
        }
        return found.toString();
    }

    static String allBytes(PicturedRecord r) {
        return hex(r, 0, 64);
    }

    /** All that can be asked without changing anything; at most 103 calls. */
    static String state(PicturedRecord r) {
        StringBuilder found = new StringBuilder(allBytes(r));
        int count = r.fields();
        for (int f = 0; f < count; f++) {
            found.append(" field ").append(r.size(f)).append(' ').append(r.shape(f)).append(' ').append(r.value(f));
        }
        return found.append(" errors ").append(r.sizeErrors()).append(' ').append(r.dataErrors()).toString();
    }
}
