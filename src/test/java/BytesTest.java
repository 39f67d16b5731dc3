/** Promises 8 and 9: peek and poke. */
public final class BytesTest {
    private static final Checks CHECKS = new Checks();

    public static void main(String[] args) {
        everyPlace();
        everyByte();
        refusals();
        CHECKS.finish();
    }

    private static void everyPlace() {
        PicturedRecord r = new PicturedRecord();
        for (int p = 0; p < 64; p++) {
            CHECKS.same("poke at " + p, r.poke(p, 255 - p), true);
        }
        for (int p = 0; p < 64; p++) {
            CHECKS.same("peek at " + p, r.peek(p), 255 - p);
        }
    }

    private static void everyByte() {
        for (int b = -300; b <= 600; b++) {
            PicturedRecord r = new PicturedRecord();
            r.poke(7, 100);
            boolean due = b >= 0 && b <= 255;
            CHECKS.same("poke of " + b, r.poke(7, b), due);
            CHECKS.same("peek behind poke of " + b, r.peek(7), due ? b : 100);
        }
    }

    private static void refusals() {
        PicturedRecord r = new PicturedRecord();
        String before = Records.allBytes(r);
        int[] places = {-1, -2, 64, 65, 255, 256, Integer.MIN_VALUE, Integer.MAX_VALUE};
        for (int p : places) {
            CHECKS.same("peek at " + p, r.peek(p), -1);
            CHECKS.same("poke at " + p, r.poke(p, 1), false);
        }
        CHECKS.same("poke of the least int", r.poke(0, Integer.MIN_VALUE), false);
        CHECKS.same("poke of the greatest int", r.poke(63, Integer.MAX_VALUE), false);
        CHECKS.same("bytes behind refusals", Records.allBytes(r), before);
    }
}
