/** One test for each sentence of 'Terms' on what a call reads, stores and leaves unchanged. */
public final class OrderSentencesTest {
    private static final Checks CHECKS = new Checks();

    public static void main(String[] args) {
        readsBeforeItStores();
        laterStoreStands();
        refusalsChangeNothing();
        dataErrorsStoreNothing();
        CHECKS.finish();
    }

    private static PicturedRecord overlapping(String bytes, String... picturesAndPlaces) {
        PicturedRecord r = new PicturedRecord();
        for (int i = 0; i < picturesAndPlaces.length; i += 2) {
            Records.make(r, picturesAndPlaces[i], 0, Integer.parseInt(picturesAndPlaces[i + 1]));
        }
        Records.pokeText(r, 0, bytes);
        return r;
    }

    private static void readsBeforeItStores() {
        CHECKS.sentence("A call reads all that it reads before it stores anything.");
        moveReadsFirst();
        computeReadsFirst();
        divideReadsFirst();
        addToReadsFirst();
        addToReadsWhatItMakesUnsound();
        totalReadsFirst();
    }

    private static void moveReadsFirst() {
        PicturedRecord up = overlapping("1234", "9(4)", "0", "9(6)", "2");
        CHECKS.same("move onto its own end", up.move(0, 1), 0);
        CHECKS.same("bytes", Records.text(up, 0, 8), "12001234");
        PicturedRecord down = overlapping("0012345", "9(4)", "3", "9(6)", "0");
        CHECKS.same("move onto its own start", down.move(0, 1), 0);
        CHECKS.same("bytes", Records.text(down, 0, 7), "0023455");
        PicturedRecord edited = overlapping(" -7", "--9", "0", "++9", "0");
        CHECKS.same("move between edited fields at one place", edited.move(0, 1), 0);
        CHECKS.same("bytes", Records.text(edited, 0, 3), " -7");
    }

    private static void computeReadsFirst() {
        PicturedRecord r = overlapping("112233", "9(4)", "0", "9(4)", "2", "9(4)", "1");
        CHECKS.same("compute over parts of a and b", r.compute(0, 0, 1, 2, 0), 0);
        CHECKS.same("bytes", Records.text(r, 0, 6), "133553");
        PicturedRecord same = overlapping("12", "99", "0");
        CHECKS.same("a, b and to the same", same.compute(1, 0, 0, 0, 0), 0);
        CHECKS.same("value", same.value(0), 0);
    }

    private static void divideReadsFirst() {
        PicturedRecord overA = overlapping("1705xx", "99", "0", "99", "2", "99", "4");
        CHECKS.same("q over a", overA.divide(0, 1, 0, 2, 0), 0);
        CHECKS.same("bytes", Records.text(overA, 0, 6), "030502");
        PicturedRecord overB = overlapping("1705xx", "99", "0", "99", "2", "99", "4");
        CHECKS.same("q over b", overB.divide(0, 1, 1, 2, 0), 0);
        CHECKS.same("bytes", Records.text(overB, 0, 6), "170302");
        PicturedRecord both = overlapping("1705", "99", "0", "99", "2");
        CHECKS.same("q over a, r over b", both.divide(0, 1, 0, 1, 0), 0);
        CHECKS.same("bytes", Records.text(both, 0, 4), "0302");
        PicturedRecord across = overlapping("1705xx", "99", "0", "99", "2", "99", "1", "99", "4");
        CHECKS.same("q over parts of a and b", across.divide(0, 1, 2, 3, 0), 0);
        CHECKS.same("bytes", Records.text(across, 0, 6), "103502");
    }

    private static void addToReadsFirst() {
        PicturedRecord among = overlapping("051020", "99", "0", "99", "2", "99", "4");
        CHECKS.same("a is the first of them", among.addTo(0, 0, 2, 0), 0);
        CHECKS.same("bytes", Records.text(among, 0, 6), "101525");
        PicturedRecord parts = overlapping("1122337", "9(4)", "0", "9(4)", "2", "9", "6");
        CHECKS.same("they overlap each other", parts.addTo(2, 0, 1, 0), 0);
        CHECKS.same("bytes", Records.text(parts, 0, 7), "1122407");
        PicturedRecord over = overlapping("000900", "9(4)", "0", "9", "3", "99", "4");
        CHECKS.same("the first overlaps a", over.addTo(1, 0, 2, 7), 2);
        CHECKS.same("bytes", Records.text(over, 0, 6), "001809");
    }

    private static void addToReadsWhatItMakesUnsound() {
        PicturedRecord r = new PicturedRecord();
        Records.make(r, "9(4)", Records.BINARY, 0);
        Records.make(r, "99", Records.ZONED, 1);
        Records.make(r, "99", Records.ZONED, 10);
        Records.pokeHex(r, 0, "003132");
        r.put(2, 20, 0);
        CHECKS.same("the first store makes the second field unsound", r.addTo(2, 0, 1, 0), 0);
        CHECKS.same("bytes", Records.hex(r, 0, 3), "003332");
        Records.pokeHex(r, 0, "001d32");
        CHECKS.same("the first store would make the second field sound", r.addTo(2, 0, 1, 0), -2);
        CHECKS.same("bytes", Records.hex(r, 0, 3), "001d32");
    }

    private static void totalReadsFirst() {
        PicturedRecord among = overlapping("102030", "99", "0", "99", "2", "99", "4");
        CHECKS.same("the target is one of them", among.total(0, 2, 1, 0), 0);
        CHECKS.same("bytes", Records.text(among, 0, 6), "106030");
        PicturedRecord parts = overlapping("1020", "99", "0", "99", "2", "99", "1");
        CHECKS.same("the target overlaps two of them", parts.total(0, 1, 2, 0), 0);
        CHECKS.same("bytes", Records.text(parts, 0, 4), "1300");
    }

    private static void laterStoreStands() {
        CHECKS.sentence("Where it stores twice, the later store stands.");
        PicturedRecord same = overlapping("1705xx", "99", "0", "99", "2", "99", "4");
        CHECKS.same("q and r the same", same.divide(0, 1, 2, 2, 0), 0);
        CHECKS.same("the remainder stands", same.value(2), 2);
        PicturedRecord parts = overlapping("1705xxxx", "99", "0", "99", "2", "9(3)", "4", "99", "6");
        CHECKS.same("q and r overlap", parts.divide(0, 1, 2, 3, 0), 0);
        CHECKS.same("bytes", Records.text(parts, 0, 8), "17050002");
        PicturedRecord kept = overlapping("7130xxx", "99", "0", "99", "2", "9(3)", "4", "9", "4");
        CHECKS.same("q and r overlap, r too small", kept.divide(0, 1, 2, 3, 0), 2);
        CHECKS.same("the quotient stands", Records.text(kept, 4, 3), "002");
        PicturedRecord twice = overlapping("0510", "99", "0", "99", "2", "99", "2");
        CHECKS.same("addTo to two fields at one place", twice.addTo(0, 1, 2, 0), 0);
        CHECKS.same("the later one", twice.value(1), 15);
        PicturedRecord scaled = overlapping("0510", "99", "0", "99", "2", "9V9", "2");
        CHECKS.same("addTo to two pictures at one place", scaled.addTo(0, 1, 2, 0), 0);
        CHECKS.same("the later one", Records.text(scaled, 2, 2), "60");
    }

    /** Field 0 is sound, 1 edited, 2 not sound, 3 is zero; a draft of S9 stands. */
    private static PicturedRecord setUp() {
        PicturedRecord r = Records.zoned("99", 12, "Z9", 3, "99", 5, "9", 0);
        r.poke(4, 'x');
        r.compute(3, 0, 3, 0, 0);
        r.move(2, 0);
        Records.draft(r, "S9");
        return r;
    }

    private static void refusalsChangeNothing() {
        CHECKS.sentence("A call that answers -1, or a refusal, changes nothing");
        for (int which = 0; which < 31; which++) {
            PicturedRecord r = setUp();
            String before = Records.state(r);
            CHECKS.same("refusal number " + which, refused(r, which), true);
            CHECKS.same("what is there behind refusal number " + which, Records.state(r), before);
            CHECKS.same("the draft behind refusal number " + which, r.field(0, 20), 4);
            CHECKS.same("its shape behind refusal number " + which, r.shape(4), 256 + 1);
        }
    }

    private static boolean refused(PicturedRecord r, int which) {
        switch (which) {
            case 0: return !r.pic((char) 31);
            case 1: return !r.pic((char) 127);
            case 2: return r.field(4, 0) == -2;
            case 3: return r.field(-1, 0) == -2;
            case 4: return r.field(0, 64) == -3;
            case 5: return r.field(0, -1) == -3;
            case 6: return !r.poke(64, 1);
            case 7: return !r.poke(0, 256);
            case 8: return !r.put(4, 1, 0);
            case 9: return !r.put(0, 1, 10);
            case 10: return r.move(4, 0) == -1;
            case 11: return r.move(2, 4) == -1;
            case 12: return r.compute(4, 0, 0, 0, 0) == -1;
            case 13: return r.compute(0, 0, 0, 0, 8) == -1;
            case 14: return r.compute(0, 0, 2, 4, 0) == -1;
            case 15: return r.compute(0, 1, 0, 0, 0) == -1;
            case 16: return r.compute(3, 1, 3, 0, 0) == -1;
            case 17: return r.divide(0, 0, 0, 0, 8) == -1;
            case 18: return r.divide(0, 0, 0, 4, 0) == -1;
            case 19: return r.divide(0, 3, 4, 0, 0) == -1;
            case 20: return r.divide(0, 1, 0, 0, 0) == -1;
            case 21: return r.addTo(0, 0, 0, 8) == -1;
            case 22: return r.addTo(0, 0, 4, 0) == -1;
            case 23: return r.addTo(0, 3, 0, 0) == -1;
            case 24: return r.addTo(1, 0, 0, 0) == -1;
            case 25: return r.total(0, 0, 0, 8) == -1;
            case 26: return r.total(0, 4, 0, 0) == -1;
            case 27: return r.total(3, 0, 0, 0) == -1;
            case 28: return r.total(0, 0, 4, 0) == -1;
            case 29: return r.peek(64) == -1 && r.size(4) == -1 && r.shape(4) == -1;
            default: return r.value(4) == 4000000000L && r.value(2) == 4000000000L;
        }
    }

    private static void dataErrorsStoreNothing() {
        CHECKS.sentence("a call that answers -2 stores nothing");
        for (int which = 0; which < 12; which++) {
            PicturedRecord r = setUp();
            String before = Records.allBytes(r);
            CHECKS.same("call number " + which, answer(r, which), -2);
            CHECKS.same("bytes behind call number " + which, Records.allBytes(r), before);
            CHECKS.same("fields behind call number " + which, r.fields(), 4);
            CHECKS.same("size errors behind call number " + which, r.sizeErrors(), 1);
            CHECKS.same("the draft behind call number " + which, r.field(0, 20), 4);
        }
    }

    private static int answer(PicturedRecord r, int which) {
        switch (which) {
            case 0: return r.move(2, 0);
            case 1: return r.move(2, 2);
            case 2: return r.compute(0, 2, 0, 0, 0);
            case 3: return r.compute(0, 0, 2, 0, 0);
            case 4: return r.compute(3, 2, 3, 0, 0);
            case 5: return r.divide(2, 0, 0, 3, 0);
            case 6: return r.divide(0, 2, 0, 3, 0);
            case 7: return r.divide(2, 3, 0, 3, 0);
            case 8: return r.addTo(2, 0, 0, 0);
            case 9: return r.addTo(0, 0, 3, 0);
            case 10: return r.total(0, 3, 0, 0);
            default: return r.total(2, 2, 0, 0);
        }
    }
}
