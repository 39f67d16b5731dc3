/**
 * Decimal fields in a record of bytes, each described by a picture: packed, zoned and binary
 * numbers, exact arithmetic with rounding and size errors, and edited texts.
 */
public final class PicturedRecord {
    /** What value() answers when there is no value. */
    public static final long NONE = 4000000000L;

    private static final int RECORD_LIMIT = 64;
    private static final int DRAFT_LIMIT = 24;
    private static final int FIELD_LIMIT = 12;
    private static final int SYMBOL_LIMIT = 18;
    private static final int DIGIT_LIMIT = 9;
    private static final int SCALE_LIMIT = 4;
    private static final int PUT_SCALE_LIMIT = 9;

    private static final int ZONED = 0;
    private static final int PACKED = 1;
    private static final int SEPARATE = 2;
    private static final int BINARY = 3;
    // No usage that a caller can name: it tells edited fields from zoned ones once they are made.
    private static final int EDITED = 4;

    private static final int PLUS = 0;
    private static final int MINUS = 1;
    private static final int TIMES = 2;
    private static final int DIVIDED_BY = 3;

    private static final int TOWARDS_ZERO = 0;
    private static final int NEAREST_AWAY = 1;
    private static final int NEAREST_EVEN = 2;
    private static final int NEAREST_TOWARDS_ZERO = 3;
    private static final int AWAY_FROM_ZERO = 4;
    private static final int GREATER = 5;
    private static final int LESSER = 6;
    private static final int WHOLE_ONLY = 7;

    private static final int REFUSED = -1;
    private static final int NOT_SOUND = -2;

    private final char[] draft;
    private int draftLength;
    // Drafts are read into this one, so that a refused draft makes no object.
    private Picture spare;
    private final Field[] made;
    private int madeCount;
    private final Storage storage;
    private final long[] unitsRead;
    private int sizeErrorCount;
    private int dataErrorCount;

    public PicturedRecord() {
        draft = new char[DRAFT_LIMIT];
        spare = new Picture();
        made = new Field[FIELD_LIMIT];
        storage = new Storage();
        unitsRead = new long[FIELD_LIMIT];
    }

    public boolean pic(char c) {
        if (c < 32 || c > 126 || draftLength >= DRAFT_LIMIT) {
            return false;
        }
        draft[draftLength] = c;
        draftLength++;
        return true;
    }

    public void scrap() {
        draftLength = 0;
    }

    public int field(int usage, int offset) {
        if (!spare.readDraft(draft, draftLength)) {
            return -1;
        }
        if (!spare.goesWith(usage)) {
            return -2;
        }
        int length = spare.lengthAs(usage);
        if (offset < 0 || offset > RECORD_LIMIT - length) {
            return -3;
        }
        if (madeCount >= FIELD_LIMIT) {
            return -4;
        }
        made[madeCount] = new Field(spare, usage, offset, length);
        madeCount++;
        spare = new Picture();
        draftLength = 0;
        return madeCount - 1;
    }

    public int fields() {
        return madeCount;
    }

    public int size(int f) {
        Field found = fieldAt(f);
        return found == null ? -1 : found.length;
    }

    public int shape(int f) {
        Field found = fieldAt(f);
        if (found == null) {
            return -1;
        }
        return found.digits + 16 * found.scale + (found.signed ? 256 : 0) + (found.isEdited() ? 512 : 0);
    }

    public int peek(int p) {
        return isPlace(p) ? storage.bytes[p] : -1;
    }

    public boolean poke(int p, int b) {
        if (!isPlace(p) || b < 0 || b > 255) {
            return false;
        }
        storage.bytes[p] = b;
        return true;
    }

    public long value(int f) {
        Field found = fieldAt(f);
        return found == null ? NONE : storage.unitsOf(found);
    }

    public boolean put(int f, int v, int scale) {
        Field to = fieldAt(f);
        if (to == null || scale < 0 || scale > PUT_SCALE_LIMIT) {
            return false;
        }
        storeByMove(to, v, scale);
        return true;
    }

    public int move(int from, int to) {
        Field source = fieldAt(from);
        Field target = fieldAt(to);
        if (source == null || target == null) {
            return REFUSED;
        }
        long units = storage.unitsOf(source);
        if (units == NONE) {
            return dataError();
        }
        storeByMove(target, units, source.scale);
        return 0;
    }

    public int compute(int op, int a, int b, int to, int mode) {
        Field left = fieldAt(a);
        Field right = fieldAt(b);
        Field target = fieldAt(to);
        if (!isOperation(op) || !isMode(mode) || !isOperand(left) || !isOperand(right) || target == null) {
            return REFUSED;
        }
        long x = storage.unitsOf(left);
        long y = storage.unitsOf(right);
        if (x == NONE || y == NONE) {
            return dataError();
        }
        boolean stored;
        if (op == TIMES) {
            stored = storeResult(target, x * y, left.scale + right.scale, 1L, mode);
        } else if (op == DIVIDED_BY) {
            stored = storeResult(target, x, left.scale - right.scale, y, mode);
        } else {
            long second = Decimal.atFullScale(op == MINUS ? -y : y, right.scale);
            stored = storeResult(target, Decimal.atFullScale(x, left.scale) + second, SCALE_LIMIT, 1L, mode);
        }
        return stored ? 0 : 1;
    }

    public int divide(int a, int b, int q, int r, int mode) {
        Field left = fieldAt(a);
        Field right = fieldAt(b);
        Field quotient = fieldAt(q);
        Field remainder = fieldAt(r);
        if (!isMode(mode) || !isOperand(left) || !isOperand(right) || quotient == null || remainder == null) {
            return REFUSED;
        }
        long x = storage.unitsOf(left);
        long y = storage.unitsOf(right);
        if (x == NONE || y == NONE) {
            return dataError();
        }
        if (!storeResult(quotient, x, left.scale - right.scale, y, mode)) {
            return 1;
        }
        int decimals = right.scale + quotient.scale;
        int scale = Math.max(left.scale, decimals);
        long rest = remainderAt(scale, x, left.scale, y, decimals);
        return storeResult(remainder, rest, scale, 1L, TOWARDS_ZERO) ? 0 : 2;
    }

    public int addTo(int a, int first, int last, int mode) {
        Field added = fieldAt(a);
        if (!isMode(mode) || !isOperand(added) || !isRange(first, last)) {
            return REFUSED;
        }
        long addedUnits = storage.unitsOf(added);
        if (addedUnits == NONE || !readRange(first, last)) {
            return dataError();
        }
        long addend = Decimal.atFullScale(addedUnits, added.scale);
        int errors = 0;
        for (int k = first; k <= last; k++) {
            Field target = fieldAt(k);
            if (isOperand(target)) {
                long sum = Decimal.atFullScale(unitsRead[k], target.scale) + addend;
                if (!storeResult(target, sum, SCALE_LIMIT, 1L, mode)) {
                    errors += 1 << k;
                }
            }
        }
        return errors;
    }

    public int total(int first, int last, int to, int mode) {
        Field target = fieldAt(to);
        if (!isMode(mode) || target == null || !isRange(first, last)) {
            return REFUSED;
        }
        if (!readRange(first, last)) {
            return dataError();
        }
        long sum = 0;
        for (int k = first; k <= last; k++) {
            Field summand = fieldAt(k);
            if (isOperand(summand)) {
                sum += Decimal.atFullScale(unitsRead[k], summand.scale);
            }
        }
        return storeResult(target, sum, SCALE_LIMIT, 1L, mode) ? 0 : 1;
    }

    public int sizeErrors() {
        return sizeErrorCount;
    }

    public int dataErrors() {
        return dataErrorCount;
    }

    private Field fieldAt(int f) {
        return f >= 0 && f < madeCount ? made[f] : null;
    }

    private static boolean isPlace(int p) {
        return p >= 0 && p < RECORD_LIMIT;
    }

    private static boolean isOperation(int op) {
        return op >= PLUS && op <= DIVIDED_BY;
    }

    private static boolean isMode(int mode) {
        return mode >= TOWARDS_ZERO && mode <= WHOLE_ONLY;
    }

    private static boolean isOperand(Field f) {
        return f != null && !f.isEdited();
    }

    private boolean isRange(int first, int last) {
        return first >= 0 && first <= last && last < madeCount;
    }

    private int dataError() {
        dataErrorCount++;
        return NOT_SOUND;
    }

    /** Fills unitsRead before any store, because fields may overlap; false if one is not sound. */
    private boolean readRange(int first, int last) {
        for (int k = first; k <= last; k++) {
            Field source = fieldAt(k);
            if (isOperand(source)) {
                unitsRead[k] = storage.unitsOf(source);
                if (unitsRead[k] == NONE) {
                    return false;
                }
            }
        }
        return true;
    }

    /**
     * The remainder of x units by y units, as a whole number of 10^-scale; decimals are those of
     * y times the cut quotient. Nothing overflows, for that product is never further from zero
     * than the dividend.
     */
    private static long remainderAt(int scale, long x, int xScale, long y, int decimals) {
        long cut = Decimal.result(x, decimals - xScale, y, TOWARDS_ZERO);
        return x * Decimal.tenTo(scale - xScale) - y * cut * Decimal.tenTo(scale - decimals);
    }

    /** Stores number / 10^scale / divisor as a result; false, after counting it, at a size error. */
    private boolean storeResult(Field to, long number, int scale, long divisor, int mode) {
        long units = Decimal.result(number, to.scale - scale, divisor, mode);
        if (Math.abs(units) >= Decimal.tenTo(to.digits)) {
            sizeErrorCount++;
            return false;
        }
        storage.store(to, units);
        return true;
    }

    private void storeByMove(Field to, long number, int scale) {
        long units = number * Decimal.tenTo(to.scale) / Decimal.tenTo(scale);
        storage.store(to, units % Decimal.tenTo(to.digits));
    }

    /** Exact arithmetic on whole numbers that stand for decimal ones. */
    private static final class Decimal {
        // Larger than any field holds, so that whoever looks at the size finds the error.
        private static final long SIZE_ERROR = 9000000000000000000L;

        private static final long[] TENS = {
            1L, 10L, 100L, 1000L, 10000L, 100000L, 1000000L, 10000000L, 100000000L, 1000000000L
        };

        /** Fields keep the exponents within 0 .. 9; the index is looked at all the same. */
        private static long tenTo(int exponent) {
            return exponent >= 0 && exponent < TENS.length ? TENS[exponent] : 1L;
        }

        private static long atFullScale(long units, int scale) {
            return units * tenTo(SCALE_LIMIT - scale);
        }

        /** number times 10^shift / divisor, rounded; or SIZE_ERROR. */
        private static long result(long number, int shift, long divisor, int mode) {
            if (divisor == 0) {
                return SIZE_ERROR;
            }
            long top = number;
            long bottom = divisor;
            if (shift < 0) {
                bottom *= tenTo(-shift);
            } else if (Math.abs(number) < tenTo(DIGIT_LIMIT)) {
                top *= tenTo(shift);
            } else {
                // Only products and sums get so large, and these have no divisor but 1: the number
                // is whole and fits no field, while shifting it could overflow.
                return SIZE_ERROR;
            }
            return bottom < 0 ? rounded(-top, -bottom, mode) : rounded(top, bottom, mode);
        }

        private static long rounded(long top, long bottom, int mode) {
            if (bottom <= 0) {
                return SIZE_ERROR;
            }
            long cut = top / bottom;
            long rest = Math.abs(top % bottom);
            if (rest == 0) {
                return cut;
            }
            if (mode == WHOLE_ONLY) {
                return SIZE_ERROR;
            }
            int half = Long.compare(2 * rest, bottom);
            if (!goesAway(mode, top < 0, half, cut % 2 != 0)) {
                return cut;
            }
            return top < 0 ? cut - 1 : cut + 1;
        }

        /** Whether a number that is not whole goes away from zero; half tells it from the middle. */
        private static boolean goesAway(int mode, boolean negative, int half, boolean odd) {
            switch (mode) {
                case NEAREST_AWAY:
                    return half >= 0;
                case NEAREST_EVEN:
                    return half > 0 || half == 0 && odd;
                case NEAREST_TOWARDS_ZERO:
                    return half > 0;
                case AWAY_FROM_ZERO:
                    return true;
                case GREATER:
                    return !negative;
                case LESSER:
                    return negative;
                default:
                    return false;
            }
        }
    }

    /** A picture at a place of the record. */
    private static final class Field {
        private final Picture picture;
        private final int form;
        private final int offset;
        private final int length;
        private final int digits;
        private final int scale;
        private final boolean signed;

        private Field(Picture picture, int usage, int offset, int length) {
            this.picture = picture;
            this.form = picture.edited ? EDITED : usage;
            this.offset = offset;
            this.length = length;
            this.digits = picture.digits;
            this.scale = picture.scale;
            this.signed = picture.signed;
        }

        private boolean isEdited() {
            return form == EDITED;
        }
    }

    /** What a draft says: its symbols, and what follows from them. */
    private static final class Picture {
        private static final String REPEATABLE = "9Z*$+-,B0/";
        private static final String FILLERS = "Z*$+-";
        private static final String FLOATING = "$+-";
        private static final String SIGNS = "+-";
        private static final String INSERTIONS = ",B0/";
        private static final char NO_FILLER = ' ';

        private final char[] symbols;
        private int count;
        private int digits;
        private int scale;
        private boolean signed;
        private boolean edited;
        private int bodyStart;
        private int bodyEnd;
        private char filler;
        private boolean floating;

        private Picture() {
            symbols = new char[SYMBOL_LIMIT];
            filler = NO_FILLER;
        }

        /** Becomes the draft's picture; false, and then of no use, if that is none. */
        private boolean readDraft(char[] draft, int length) {
            return writeOut(draft, length) && (readNumeric() || readEdited());
        }

        private boolean goesWith(int usage) {
            if (usage < ZONED || usage > BINARY || edited && usage != ZONED) {
                return false;
            }
            return signed || usage != SEPARATE;
        }

        private int lengthAs(int usage) {
            if (edited) {
                return count;
            }
            switch (usage) {
                case PACKED:
                    return digits / 2 + 1;
                case SEPARATE:
                    return digits + 1;
                case BINARY:
                    return digits <= 4 ? 2 : 4;
                default:
                    return digits;
            }
        }

        private boolean writeOut(char[] draft, int length) {
            count = 0;
            int at = 0;
            while (at < length) {
                int taken = repetitionLength(draft, length, at);
                int times = taken == 0 ? 1 : repetitions(draft, at, taken);
                if (!append(draft[at], times)) {
                    return false;
                }
                at += Math.max(1, taken);
            }
            return count > 0;
        }

        /** How many characters the repetition at this place takes; 0 if there is none. */
        private static int repetitionLength(char[] draft, int length, int at) {
            boolean begins = at + 3 < length && isOneOf(REPEATABLE, draft[at]) && draft[at + 1] == '(';
            if (!begins || !isDigit(draft[at + 2])) {
                return 0;
            }
            if (draft[at + 3] == ')') {
                return 4;
            }
            return at + 4 < length && isDigit(draft[at + 3]) && draft[at + 4] == ')' ? 5 : 0;
        }

        private static int repetitions(char[] draft, int at, int taken) {
            int first = draft[at + 2] - '0';
            return taken == 4 ? first : 10 * first + draft[at + 3] - '0';
        }

        private boolean append(char symbol, int times) {
            if (symbol == '(' || symbol == ')' || times == 0 || count + times > SYMBOL_LIMIT) {
                return false;
            }
            for (int i = 0; i < times; i++) {
                symbols[count] = symbol;
                count++;
            }
            return true;
        }

        private boolean readNumeric() {
            edited = false;
            signed = symbols[0] == 'S';
            digits = 0;
            scale = 0;
            boolean behindPoint = false;
            for (int i = signed ? 1 : 0; i < count; i++) {
                if (symbols[i] == '9') {
                    digits++;
                    scale += behindPoint ? 1 : 0;
                } else if (symbols[i] == 'V' && !behindPoint) {
                    behindPoint = true;
                } else {
                    return false;
                }
            }
            return isWithinLimits();
        }

        private boolean isWithinLimits() {
            return digits >= 1 && digits <= DIGIT_LIMIT && scale <= SCALE_LIMIT;
        }

        private boolean readEdited() {
            edited = true;
            int signs = countOf('+') + countOf('-');
            boolean signInHead = signs == 1 && isOneOf(SIGNS, symbols[0]);
            boolean signInTail = signs == 1 && !signInHead && isOneOf(SIGNS, symbols[count - 1]);
            boolean lettersInTail = signs == 0 && (endsWith('C', 'R') || endsWith('D', 'B'));
            bodyStart = signInHead ? 1 : 0;
            if (bodyStart < count && symbols[bodyStart] == '$' && countOf('$') == 1) {
                bodyStart++;
            }
            bodyEnd = count;
            if (signInTail) {
                bodyEnd = count - 1;
            } else if (lettersInTail) {
                bodyEnd = count - 2;
            }
            if (!readBody()) {
                return false;
            }
            signed = signInHead || signInTail || lettersInTail || isOneOf(SIGNS, filler);
            return isWithinLimits();
        }

        private int countOf(char symbol) {
            int found = 0;
            for (int i = 0; i < count; i++) {
                found += symbols[i] == symbol ? 1 : 0;
            }
            return found;
        }

        private boolean endsWith(char lastButOne, char last) {
            return count >= 2 && symbols[count - 2] == lastButOne && symbols[count - 1] == last;
        }

        private boolean readBody() {
            if (bodyStart >= bodyEnd || isOneOf(INSERTIONS, symbols[bodyStart])) {
                return false;
            }
            filler = NO_FILLER;
            scale = 0;
            int fillers = 0;
            int nines = 0;
            boolean behindPoint = false;
            for (int i = bodyStart; i < bodyEnd; i++) {
                char symbol = symbols[i];
                if (symbol == '9') {
                    nines++;
                    scale += behindPoint ? 1 : 0;
                } else if (symbol == '.' && !behindPoint) {
                    behindPoint = true;
                } else if (isNextFiller(symbol, fillers) && nines == 0 && !behindPoint) {
                    filler = symbol;
                    fillers++;
                } else if (!isOneOf(INSERTIONS, symbol)) {
                    return false;
                }
            }
            floating = isOneOf(FLOATING, filler);
            digits = nines + fillers - (floating ? 1 : 0);
            return (!behindPoint || scale > 0) && (!floating || fillers >= 2);
        }

        private boolean isNextFiller(char symbol, int fillersBefore) {
            return isOneOf(FILLERS, symbol) && (fillersBefore == 0 || symbol == filler);
        }

        /** The first floating filler is no digit place; it always begins the body. */
        private boolean isDigitPlace(int place) {
            char symbol = symbols[place];
            return symbol == '9' || symbol == filler && !(floating && place == bodyStart);
        }

        private static boolean isOneOf(String characters, char c) {
            return characters.indexOf(c) >= 0;
        }

        private static boolean isDigit(char c) {
            return c >= '0' && c <= '9';
        }
    }

    /** Makes the texts of edited fields, one at a time, in a row that is used again. */
    private static final class Editor {
        private final int[] text;

        private Editor() {
            text = new int[SYMBOL_LIMIT];
        }

        private void edit(Picture picture, long units) {
            boolean negative = units < 0;
            for (int i = 0; i < picture.bodyStart; i++) {
                text[i] = signCharacter(picture.symbols[i], negative);
            }
            writeBody(picture, Math.abs(units));
            suppress(picture, firstShown(picture), negative);
            for (int i = picture.bodyEnd; i < picture.count; i++) {
                text[i] = signCharacter(picture.symbols[i], negative);
            }
        }

        /** Writes all digits of the body; those in front may be suppressed then. */
        private void writeBody(Picture picture, long magnitude) {
            long left = magnitude;
            for (int i = picture.bodyEnd - 1; i >= picture.bodyStart; i--) {
                if (picture.isDigitPlace(i)) {
                    text[i] = '0' + (int) (left % 10);
                    left /= 10;
                } else {
                    text[i] = picture.symbols[i] == 'B' ? ' ' : picture.symbols[i];
                }
            }
        }

        private int firstShown(Picture picture) {
            for (int i = picture.bodyStart; i < picture.bodyEnd; i++) {
                char symbol = picture.symbols[i];
                if (symbol == '9' || symbol == '.' || picture.isDigitPlace(i) && text[i] != '0') {
                    return i;
                }
            }
            return picture.bodyEnd;
        }

        private void suppress(Picture picture, int shown, boolean negative) {
            for (int i = picture.bodyStart; i < shown; i++) {
                text[i] = picture.filler == '*' ? '*' : ' ';
            }
            if (picture.floating && shown > picture.bodyStart && shown < picture.bodyEnd) {
                text[shown - 1] = signCharacter(picture.filler, negative);
            }
        }

        /** What a symbol of head or tail shows, or the one floating filler that shows anything. */
        private static int signCharacter(char symbol, boolean negative) {
            if (symbol == '$') {
                return '$';
            }
            if (symbol == '+') {
                return negative ? '-' : '+';
            }
            return negative ? symbol : ' ';
        }
    }

    /** The bytes of the record, and how units stand in them. */
    private static final class Storage {
        private static final int DIGIT_ZERO = '0';
        private static final int ZONED_MINUS = 64;
        private static final int PACKED_PLUS = 12;
        private static final int PACKED_MINUS = 13;
        private static final int PACKED_OTHER_MINUS = 11;
        private static final int PACKED_UNSIGNED = 15;
        private static final int PACKED_LEAST_SIGN = 10;

        private final int[] bytes;
        private final Editor editor;

        private Storage() {
            bytes = new int[RECORD_LIMIT];
            editor = new Editor();
        }

        /** The units of a field; NONE if it is not sound. */
        private long unitsOf(Field f) {
            switch (f.form) {
                case PACKED:
                    return packedUnits(f);
                case SEPARATE:
                    return separateUnits(f);
                case BINARY:
                    return binaryUnits(f);
                case EDITED:
                    return editedUnits(f);
                default:
                    return zonedUnits(f);
            }
        }

        /** Stores units that the field has digits for, without their sign if it is not signed. */
        private void store(Field f, long units) {
            long held = f.signed ? units : Math.abs(units);
            switch (f.form) {
                case PACKED:
                    storePacked(f, held);
                    break;
                case SEPARATE:
                    storeDigits(f, Math.abs(held));
                    bytes[f.offset + f.digits] = held < 0 ? '-' : '+';
                    break;
                case BINARY:
                    storeBinary(f, held);
                    break;
                case EDITED:
                    storeEdited(f, held);
                    break;
                default:
                    storeDigits(f, Math.abs(held));
                    bytes[f.offset + f.digits - 1] += held < 0 ? ZONED_MINUS : 0;
                    break;
            }
        }

        private static boolean isDigit(int digit) {
            return digit >= 0 && digit <= 9;
        }

        private static long withSign(long magnitude, boolean negative) {
            return negative ? -magnitude : magnitude;
        }

        private long zonedUnits(Field f) {
            int last = bytes[f.offset + f.digits - 1] - DIGIT_ZERO;
            boolean negative = f.signed && isDigit(last - ZONED_MINUS);
            if (negative) {
                last -= ZONED_MINUS;
            }
            long others = digitsAt(f.offset, f.digits - 1);
            if (others == NONE || !isDigit(last)) {
                return NONE;
            }
            return withSign(10 * others + last, negative);
        }

        private long separateUnits(Field f) {
            int sign = bytes[f.offset + f.digits];
            long magnitude = digitsAt(f.offset, f.digits);
            if (magnitude == NONE || sign != '+' && sign != '-') {
                return NONE;
            }
            return withSign(magnitude, sign == '-');
        }

        private long digitsAt(int start, int count) {
            long magnitude = 0;
            for (int i = start; i < start + count; i++) {
                int digit = bytes[i] - DIGIT_ZERO;
                if (!isDigit(digit)) {
                    return NONE;
                }
                magnitude = 10 * magnitude + digit;
            }
            return magnitude;
        }

        private void storeDigits(Field f, long magnitude) {
            long left = magnitude;
            for (int i = f.offset + f.digits - 1; i >= f.offset; i--) {
                bytes[i] = DIGIT_ZERO + (int) (left % 10);
                left /= 10;
            }
        }

        private long packedUnits(Field f) {
            int signHalf = 2 * f.length - 1;
            long magnitude = 0;
            for (int i = 0; i < signHalf; i++) {
                int digit = halfAt(f.offset, i);
                if (!isDigit(digit)) {
                    return NONE;
                }
                magnitude = 10 * magnitude + digit;
            }
            int sign = halfAt(f.offset, signHalf);
            int leastSign = f.signed ? PACKED_LEAST_SIGN : PACKED_UNSIGNED;
            // A digit in the half that must be 0 shows as a number with too many digits.
            if (sign < leastSign || magnitude >= Decimal.tenTo(f.digits)) {
                return NONE;
            }
            return withSign(magnitude, sign == PACKED_MINUS || sign == PACKED_OTHER_MINUS);
        }

        private int halfAt(int start, int half) {
            int both = bytes[start + half / 2];
            return half % 2 == 0 ? both / 16 : both % 16;
        }

        private void storePacked(Field f, long units) {
            long left = Math.abs(units);
            int lower = PACKED_UNSIGNED;
            if (f.signed) {
                lower = units < 0 ? PACKED_MINUS : PACKED_PLUS;
            }
            for (int i = f.offset + f.length - 1; i >= f.offset; i--) {
                bytes[i] = 16 * (int) (left % 10) + lower;
                lower = (int) (left / 10 % 10);
                left /= 100;
            }
        }

        private long binaryUnits(Field f) {
            long units = 0;
            for (int i = f.offset; i < f.offset + f.length; i++) {
                units = 256 * units + bytes[i];
            }
            if (f.signed && bytes[f.offset] >= 128) {
                units -= 1L << 8 * f.length;
            }
            return Math.abs(units) < Decimal.tenTo(f.digits) ? units : NONE;
        }

        private void storeBinary(Field f, long units) {
            long left = units;
            for (int i = f.offset + f.length - 1; i >= f.offset; i--) {
                bytes[i] = (int) (left & 255);
                left >>= 8;
            }
        }

        /** Edits what the digit places say and compares, for a text has no other units than these. */
        private long editedUnits(Field f) {
            long magnitude = 0;
            for (int i = f.picture.bodyStart; i < f.picture.bodyEnd; i++) {
                if (f.picture.isDigitPlace(i)) {
                    int digit = bytes[f.offset + i] - DIGIT_ZERO;
                    magnitude = 10 * magnitude + (isDigit(digit) ? digit : 0);
                }
            }
            editor.edit(f.picture, magnitude);
            if (holdsText(f)) {
                return magnitude;
            }
            if (!f.signed) {
                return NONE;
            }
            editor.edit(f.picture, -magnitude);
            return holdsText(f) ? -magnitude : NONE;
        }

        private boolean holdsText(Field f) {
            for (int i = 0; i < f.length; i++) {
                if (bytes[f.offset + i] != editor.text[i]) {
                    return false;
                }
            }
            return true;
        }

        private void storeEdited(Field f, long units) {
            editor.edit(f.picture, units);
            System.arraycopy(editor.text, 0, bytes, f.offset, f.length);
        }
    }
}
