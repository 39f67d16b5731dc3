import java.math.BigDecimal;
import java.math.BigInteger;
import java.math.RoundingMode;
import java.util.ArrayList;
import java.util.HashMap;
import java.util.List;
import java.util.Map;
import java.util.regex.Matcher;
import java.util.regex.Pattern;

/**
 * The document once more, written in another way (patterns, texts and BigDecimal), so that
 * ModelTest can compare long runs of calls.
 */
final class Model {
    private static final Pattern REPETITION = Pattern.compile("([9Z*$+\\-,B0/])\\((\\d\\d?)\\)");
    private static final Pattern NUMERIC = Pattern.compile("(S?)(9*)(?:V(9*))?");
    // The x stands for no filler at all.
    private static final String FILLERS = "xZ*$+-";
    private static final Pattern[] BODIES = bodies();
    private static final RoundingMode[] MODES = {
        RoundingMode.DOWN, RoundingMode.HALF_UP, RoundingMode.HALF_EVEN, RoundingMode.HALF_DOWN,
        RoundingMode.UP, RoundingMode.CEILING, RoundingMode.FLOOR, RoundingMode.UNNECESSARY
    };

    /** What a picture says. */
    static final class Shape {
        String symbols;
        int digits;
        int scale;
        boolean signed;
        boolean edited;
        String head = "";
        String body = "";
        String tail = "";
        char filler = 'x';
        Map<String, Long> texts;
    }

    private static final class Item {
        Shape shape;
        int usage;
        int offset;
        int size;
    }

    final int[] bytes = new int[64];
    private String draft = "";
    private final List<Item> items = new ArrayList<>();
    private int sizeErrors = 0;
    private int dataErrors = 0;

    // ---- pictures

    static Shape shapeOf(String draft) {
        Matcher repeated = REPETITION.matcher(draft);
        StringBuilder written = new StringBuilder();
        int from = 0;
        while (repeated.find()) {
            int times = Integer.parseInt(repeated.group(2));
            if (times == 0) {
                return null;
            }
            written.append(draft, from, repeated.start()).append(repeated.group(1).repeat(times));
            from = repeated.end();
        }
        String symbols = written.append(draft.substring(from)).toString();
        if (symbols.isEmpty() || symbols.length() > 18 || symbols.contains("(") || symbols.contains(")")) {
            return null;
        }
        Shape shape = NUMERIC.matcher(symbols).matches() ? numeric(symbols) : edited(symbols);
        boolean fits = shape != null && shape.digits >= 1 && shape.digits <= 9 && shape.scale <= 4;
        return fits ? shape : null;
    }

    private static Shape numeric(String symbols) {
        Matcher m = NUMERIC.matcher(symbols);
        m.matches();
        Shape shape = new Shape();
        shape.symbols = symbols;
        shape.scale = m.group(3) == null ? 0 : m.group(3).length();
        shape.digits = m.group(2).length() + shape.scale;
        shape.signed = !m.group(1).isEmpty();
        return shape;
    }

    private static Shape edited(String symbols) {
        Shape shape = new Shape();
        shape.symbols = symbols;
        shape.edited = true;
        String signs = symbols.replaceAll("[^+-]", "");
        String dollars = symbols.replaceAll("[^$]", "");
        String head = "";
        if (signs.length() == 1) {
            head += "[+-]?";
        }
        if (dollars.length() == 1) {
            head += "\\$?";
        }
        String tail = signs.isEmpty() ? "(?:CR|DB)?" : signs.length() == 1 ? "[+-]?" : "";
        Matcher parts = Pattern.compile("(" + head + ")(.*?)(" + tail + ")").matcher(symbols);
        if (!parts.matches()) {
            return null;
        }
        shape.head = parts.group(1);
        shape.body = parts.group(2);
        shape.tail = parts.group(3);
        shape.signed = signs.length() > 0 || shape.tail.length() == 2;
        return bodyFits(shape) ? shape : null;
    }

    private static boolean bodyFits(Shape shape) {
        for (int i = 0; i < BODIES.length; i++) {
            if (BODIES[i].matcher(shape.body).matches()) {
                shape.filler = FILLERS.charAt(i);
                int places = count(shape.body, '9') + count(shape.body, shape.filler);
                shape.digits = places - (isFloating(shape.filler) ? 1 : 0);
                int point = shape.body.indexOf('.');
                shape.scale = point < 0 ? 0 : count(shape.body.substring(point), '9');
                return true;
            }
        }
        return false;
    }

    private static Pattern[] bodies() {
        Pattern[] bodies = new Pattern[FILLERS.length()];
        for (int i = 0; i < bodies.length; i++) {
            String filler = FILLERS.substring(i, i + 1);
            String quoted = filler.equals("Z") ? filler : "\\" + filler;
            String fillers = quoted + "[,B0/" + quoted + "]*";
            if (filler.equals("x")) {
                fillers = "(?=[9.])";
            } else if (isFloating(filler.charAt(0))) {
                fillers = quoted + "[,B0/]*" + fillers;
            }
            bodies[i] = Pattern.compile(fillers + "[9,B0/]*(?:\\.[9,B0/]*9[9,B0/]*)?");
        }
        return bodies;
    }

    private static boolean isFloating(char filler) {
        return filler == '$' || filler == '+' || filler == '-';
    }

    private static int count(String text, char c) {
        return (int) text.chars().filter(x -> x == c).count();
    }

    // ---- editing

    static String edit(Shape shape, long units) {
        boolean negative = units < 0;
        String digits = padded(Math.abs(units), shape.digits);
        boolean floating = isFloating(shape.filler);
        StringBuilder full = new StringBuilder();
        int shown = -1;
        int next = 0;
        for (int i = 0; i < shape.body.length(); i++) {
            char c = shape.body.charAt(i);
            boolean place = c == '9' || c == shape.filler && !(floating && i == 0);
            char digit = place ? digits.charAt(next++) : 'x';
            full.append(place ? digit : c == 'B' ? ' ' : c);
            if (shown < 0 && (c == '9' || c == '.' || place && digit != '0')) {
                shown = i;
            }
        }
        String hidden = shape.filler == '*' ? "*" : " ";
        String body;
        if (shown < 0) {
            body = hidden.repeat(shape.body.length());
        } else if (floating) {
            body = hidden.repeat(shown - 1) + signOf(shape.filler, negative) + full.substring(shown);
        } else {
            body = hidden.repeat(shown) + full.substring(shown);
        }
        return signsOf(shape.head, negative) + body + signsOf(shape.tail, negative);
    }

    private static String signsOf(String symbols, boolean negative) {
        if (symbols.equals("CR") || symbols.equals("DB")) {
            return negative ? symbols : "  ";
        }
        StringBuilder shown = new StringBuilder();
        for (char c : symbols.toCharArray()) {
            shown.append(signOf(c, negative));
        }
        return shown.toString();
    }

    private static char signOf(char c, boolean negative) {
        return c == '$' ? '$' : negative ? '-' : c == '+' ? '+' : ' ';
    }

    private static String padded(long magnitude, int digits) {
        String text = "000000000" + magnitude;
        return text.substring(text.length() - digits);
    }

    // ---- units in bytes

    private long units(Item item) {
        StringBuilder text = new StringBuilder();
        StringBuilder hex = new StringBuilder();
        for (int i = 0; i < item.size; i++) {
            text.append((char) bytes[item.offset + i]);
            hex.append("0123456789ABCDEF".charAt(bytes[item.offset + i] / 16));
            hex.append("0123456789ABCDEF".charAt(bytes[item.offset + i] % 16));
        }
        if (item.shape.edited) {
            return editedUnits(item.shape, text.toString());
        }
        switch (item.usage) {
            case 0:
                return zonedUnits(item.shape, text.toString());
            case 1:
                return packedUnits(item.shape, hex.toString());
            case 2:
                return text.toString().matches("[0-9]+[+-]") ? separateUnits(text.toString()) : PicturedRecord.NONE;
            default:
                return binaryUnits(item.shape, hex.toString());
        }
    }

    private static long zonedUnits(Shape shape, String text) {
        if (text.matches("[0-9]+")) {
            return Long.parseLong(text);
        }
        if (shape.signed && text.matches("[0-9]*[p-y]")) {
            char last = (char) (text.charAt(text.length() - 1) - 64);
            return -Long.parseLong(text.substring(0, text.length() - 1) + last);
        }
        return PicturedRecord.NONE;
    }

    private static long separateUnits(String text) {
        long magnitude = Long.parseLong(text.substring(0, text.length() - 1));
        return text.endsWith("-") ? -magnitude : magnitude;
    }

    private static long packedUnits(Shape shape, String hex) {
        String front = shape.digits % 2 == 0 ? "0" : "";
        String sign = shape.signed ? "[A-F]" : "F";
        if (!hex.matches(front + "[0-9]{" + shape.digits + "}" + sign)) {
            return PicturedRecord.NONE;
        }
        long magnitude = Long.parseLong(hex.substring(0, hex.length() - 1));
        return hex.endsWith("B") || hex.endsWith("D") ? -magnitude : magnitude;
    }

    private static long binaryUnits(Shape shape, String hex) {
        BigInteger raw = new BigInteger(hex, 16);
        if (shape.signed && raw.testBit(4 * hex.length() - 1)) {
            raw = raw.subtract(BigInteger.ONE.shiftLeft(4 * hex.length()));
        }
        return raw.abs().compareTo(BigInteger.TEN.pow(shape.digits)) < 0 ? raw.longValue() : PicturedRecord.NONE;
    }

    private static long editedUnits(Shape shape, String text) {
        long limit = BigInteger.TEN.pow(shape.digits).longValue();
        if (shape.digits <= 3) {
            return textsOf(shape, limit).getOrDefault(text, PicturedRecord.NONE);
        }
        // The digits that a text shows can only be lacking in front, and 0s are insertions too: so
        // each choice of digits that may come from insertions is tried.
        String shown = text.replaceAll("[^0-9]", "");
        List<String> candidates = new ArrayList<>(List.of(shown));
        for (int i = 0; i < candidates.size(); i++) {
            String candidate = candidates.get(i);
            for (int at = 0; at < candidate.length(); at++) {
                String shorter = candidate.substring(0, at) + candidate.substring(at + 1);
                if (candidate.charAt(at) == '0' && !candidates.contains(shorter)) {
                    candidates.add(shorter);
                }
            }
        }
        for (String candidate : candidates) {
            long u = candidate.isEmpty() ? 0 : new BigInteger(candidate).min(BigInteger.valueOf(limit)).longValue();
            if (u < limit && edit(shape, u).equals(text)) {
                return u;
            }
            if (u < limit && shape.signed && edit(shape, -u).equals(text)) {
                return -u;
            }
        }
        return PicturedRecord.NONE;
    }

    private static Map<String, Long> textsOf(Shape shape, long limit) {
        if (shape.texts == null) {
            shape.texts = new HashMap<>();
            for (long u = shape.signed ? 1 - limit : 0; u < limit; u++) {
                shape.texts.put(edit(shape, u), u);
            }
        }
        return shape.texts;
    }

    private void store(Item item, long units) {
        long u = item.shape.signed ? units : Math.abs(units);
        String digits = padded(Math.abs(u), item.shape.digits);
        if (item.shape.edited) {
            write(item, edit(item.shape, u));
            return;
        }
        switch (item.usage) {
            case 0:
                char last = digits.charAt(digits.length() - 1);
                write(item, digits.substring(0, digits.length() - 1) + (char) (last + (u < 0 ? 64 : 0)));
                break;
            case 1:
                String halves = (digits.length() % 2 == 0 ? "0" : "") + digits;
                writeHex(item, halves + (!item.shape.signed ? "F" : u < 0 ? "D" : "C"));
                break;
            case 2:
                write(item, digits + (u < 0 ? "-" : "+"));
                break;
            default:
                String hex = String.format("%016X", u);
                writeHex(item, hex.substring(16 - 2 * item.size));
                break;
        }
    }

    private void write(Item item, String text) {
        for (int i = 0; i < text.length(); i++) {
            bytes[item.offset + i] = text.charAt(i);
        }
    }

    private void writeHex(Item item, String hex) {
        for (int i = 0; i < hex.length(); i += 2) {
            bytes[item.offset + i / 2] = Integer.parseInt(hex.substring(i, i + 2), 16);
        }
    }

    // ---- storing numbers

    private boolean fails(Item to, BigDecimal dividend, BigDecimal divisor, int mode) {
        try {
            BigDecimal y = dividend.divide(divisor, to.shape.scale, MODES[mode]);
            BigInteger units = y.unscaledValue();
            if (units.abs().compareTo(BigInteger.TEN.pow(to.shape.digits)) < 0) {
                store(to, units.longValueExact());
                return false;
            }
        } catch (ArithmeticException sizeError) {
            // by zero, or not whole in mode 7
        }
        sizeErrors++;
        return true;
    }

    private void moveInto(Item to, BigDecimal x) {
        BigInteger units = x.setScale(to.shape.scale, RoundingMode.DOWN).unscaledValue();
        store(to, units.remainder(BigInteger.TEN.pow(to.shape.digits)).longValueExact());
    }

    private static BigDecimal number(Item item, long units) {
        return BigDecimal.valueOf(units, item.shape.scale);
    }

    private Item item(int f) {
        return f >= 0 && f < items.size() ? items.get(f) : null;
    }

    private boolean isEdited(int f) {
        return items.get(f).shape.edited;
    }

    // ---- the face

    boolean pic(char c) {
        if (c < 32 || c > 126 || draft.length() == 24) {
            return false;
        }
        draft += c;
        return true;
    }

    void scrap() {
        draft = "";
    }

    int field(int usage, int offset) {
        Shape shape = shapeOf(draft);
        if (shape == null) {
            return -1;
        }
        if (usage < 0 || usage > 3 || shape.edited && usage != 0 || usage == 2 && !shape.signed) {
            return -2;
        }
        Item item = new Item();
        item.shape = shape;
        item.usage = usage;
        item.offset = offset;
        int n = shape.digits;
        int[] sizes = {n, n / 2 + 1, n + 1, n <= 4 ? 2 : 4};
        item.size = shape.edited ? shape.symbols.length() : sizes[usage];
        if (offset < 0 || (long) offset + item.size > 64) {
            return -3;
        }
        if (items.size() == 12) {
            return -4;
        }
        items.add(item);
        draft = "";
        return items.size() - 1;
    }

    int fields() {
        return items.size();
    }

    int size(int f) {
        return item(f) == null ? -1 : item(f).size;
    }

    int shape(int f) {
        if (item(f) == null) {
            return -1;
        }
        Shape s = item(f).shape;
        return s.digits + 16 * s.scale + (s.signed ? 256 : 0) + (s.edited ? 512 : 0);
    }

    int peek(int p) {
        return p < 0 || p > 63 ? -1 : bytes[p];
    }

    boolean poke(int p, int b) {
        if (p < 0 || p > 63 || b < 0 || b > 255) {
            return false;
        }
        bytes[p] = b;
        return true;
    }

    long value(int f) {
        return item(f) == null ? PicturedRecord.NONE : units(item(f));
    }

    boolean put(int f, int v, int scale) {
        if (item(f) == null || scale < 0 || scale > 9) {
            return false;
        }
        moveInto(item(f), BigDecimal.valueOf(v, scale));
        return true;
    }

    int move(int from, int to) {
        if (item(from) == null || item(to) == null) {
            return -1;
        }
        long units = value(from);
        if (units == PicturedRecord.NONE) {
            dataErrors++;
            return -2;
        }
        moveInto(item(to), number(item(from), units));
        return 0;
    }

    int compute(int op, int a, int b, int to, int mode) {
        if (op < 0 || op > 3 || mode < 0 || mode > 7 || item(a) == null || item(b) == null || item(to) == null
            || isEdited(a) || isEdited(b)) {
            return -1;
        }
        if (value(a) == PicturedRecord.NONE || value(b) == PicturedRecord.NONE) {
            dataErrors++;
            return -2;
        }
        BigDecimal x = number(item(a), value(a));
        BigDecimal y = number(item(b), value(b));
        BigDecimal one = BigDecimal.ONE;
        boolean failed;
        if (op == 3) {
            failed = fails(item(to), x, y, mode);
        } else {
            failed = fails(item(to), op == 0 ? x.add(y) : op == 1 ? x.subtract(y) : x.multiply(y), one, mode);
        }
        return failed ? 1 : 0;
    }

    int divide(int a, int b, int q, int r, int mode) {
        if (mode < 0 || mode > 7 || item(a) == null || item(b) == null || item(q) == null || item(r) == null
            || isEdited(a) || isEdited(b)) {
            return -1;
        }
        if (value(a) == PicturedRecord.NONE || value(b) == PicturedRecord.NONE) {
            dataErrors++;
            return -2;
        }
        BigDecimal x = number(item(a), value(a));
        BigDecimal y = number(item(b), value(b));
        if (fails(item(q), x, y, mode)) {
            return 1;
        }
        BigDecimal c = x.divide(y, item(q).shape.scale, RoundingMode.DOWN);
        return fails(item(r), x.subtract(y.multiply(c)), BigDecimal.ONE, 0) ? 2 : 0;
    }

    int addTo(int a, int first, int last, int mode) {
        if (mode < 0 || mode > 7 || item(a) == null || item(first) == null || item(last) == null || first > last
            || isEdited(a)) {
            return -1;
        }
        boolean sound = value(a) != PicturedRecord.NONE;
        BigDecimal[] sums = new BigDecimal[12];
        for (int k = first; k <= last; k++) {
            if (!isEdited(k)) {
                sound = sound && value(k) != PicturedRecord.NONE;
                sums[k] = number(item(k), value(k)).add(number(item(a), value(a)));
            }
        }
        if (!sound) {
            dataErrors++;
            return -2;
        }
        int answer = 0;
        for (int k = first; k <= last; k++) {
            if (!isEdited(k) && fails(item(k), sums[k], BigDecimal.ONE, mode)) {
                answer |= 1 << k;
            }
        }
        return answer;
    }

    int total(int first, int last, int to, int mode) {
        if (mode < 0 || mode > 7 || item(to) == null || item(first) == null || item(last) == null || first > last) {
            return -1;
        }
        BigDecimal sum = BigDecimal.ZERO;
        for (int k = first; k <= last; k++) {
            if (!isEdited(k)) {
                if (value(k) == PicturedRecord.NONE) {
                    dataErrors++;
                    return -2;
                }
                sum = sum.add(number(item(k), value(k)));
            }
        }
        return fails(item(to), sum, BigDecimal.ONE, mode) ? 1 : 0;
    }

    int sizeErrors() {
        return sizeErrors;
    }

    int dataErrors() {
        return dataErrors;
    }
}
