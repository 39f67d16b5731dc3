/** Checks of what a draft is found to be: a numeric picture, an edited one, or none. */
final class Shapes {
    private final Checks checks;

    Shapes(Checks checks) {
        this.checks = checks;
    }

    void numeric(String picture, int digits, int scale, boolean signed) {
        shaped(picture, digits, digits + 16 * scale + (signed ? 256 : 0));
    }

    void edited(String picture, int bytes, int digits, int scale, boolean signed) {
        shaped(picture, bytes, digits + 16 * scale + (signed ? 256 : 0) + 512);
    }

    private void shaped(String picture, int bytes, int shape) {
        PicturedRecord r = new PicturedRecord();
        checks.same("field of " + picture, Records.make(r, picture, 0, 0), 0);
        checks.same("shape of " + picture, r.shape(0), shape);
        checks.same("size of " + picture, r.size(0), bytes);
    }

    void none(String... pictures) {
        for (String picture : pictures) {
            PicturedRecord r = new PicturedRecord();
            checks.same("field of " + picture, Records.make(r, picture, 0, 0), -1);
            checks.same("fields behind " + picture, r.fields(), 0);
        }
    }
}
