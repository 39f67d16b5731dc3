/** Promises 2 and 3: pic and scrap. */
public final class DraftTest {
    public static void main(String[] args) {
        Checks checks = new Checks();
        everyCharacter(checks);
        atMostTwentyFour(checks);
        scrapEmpties(checks);
        refusalChangesNothing(checks);
        checks.finish();
    }

    private static void everyCharacter(Checks checks) {
        for (int c = 0; c <= 65535; c++) {
            PicturedRecord r = new PicturedRecord();
            checks.same("pic of code " + c, r.pic((char) c), c >= 32 && c <= 126);
        }
    }

    private static void atMostTwentyFour(Checks checks) {
        PicturedRecord r = new PicturedRecord();
        String longest = "+(1)9(01)9(1)9(1)9(1).9(1)".substring(0, 24);
        for (int i = 0; i < 24; i++) {
            checks.same("pic number " + (i + 1), r.pic(longest.charAt(i)), true);
        }
        checks.same("pic number 25", r.pic('9'), false);
        r.scrap();
        String drafted = "+(1)9(01)9(1)9(1)9(1)9(1)".substring(0, 21) + "9.9";
        for (int i = 0; i < 24; i++) {
            r.pic(drafted.charAt(i));
        }
        checks.same("pic number 25 of a picture", r.pic('9'), false);
        checks.same("a picture of 24 characters", r.field(0, 0), 0);
        checks.same("its shape: a refused character is not in it", r.shape(0), 6 + 16 + 256 + 512);
    }

    private static void scrapEmpties(Checks checks) {
        PicturedRecord r = new PicturedRecord();
        r.pic('9');
        r.scrap();
        checks.same("field behind scrap", r.field(0, 0), -1);
        r.pic('S');
        r.pic('9');
        r.scrap();
        r.scrap();
        r.pic('9');
        checks.same("field behind scrap and 9", r.field(0, 0), 0);
        checks.same("shape behind scrap", r.shape(0), 1);
        Records.draft(r, "9B(01)");
        Records.draft(r, "9B(01");
        checks.same("a bracket that was scrapped", r.field(0, 0), -1);
        Records.draft(r, "9B(1)");
        Records.draft(r, "9B(1");
        checks.same("another bracket that was scrapped", r.field(0, 0), -1);
        r.poke(3, 9);
        r.scrap();
        checks.same("scrap leaves fields", r.fields(), 1);
        checks.same("scrap leaves bytes", r.peek(3), 9);
    }

    private static void refusalChangesNothing(Checks checks) {
        PicturedRecord r = new PicturedRecord();
        r.pic('9');
        r.pic((char) 31);
        r.pic((char) 127);
        r.pic((char) (57 + 256));
        r.pic((char) 65535);
        checks.same("field of one 9 and refused ones", r.field(0, 0), 0);
        checks.same("its shape", r.shape(0), 1);
    }
}
