import java.util.Arrays;

/**
 * The words of a page program: bytes are typed on a tape, and the tape is cut into words, or it is
 * told where, and why, the program cannot go on.
 */
public final class PageWords {
    public static final int BAD = -1;
    public static final int FULL = -3;

    private static final int MOST_BYTES = 65536;
    private static final int MOST_WORDS = 16384;
    private static final int MOST_OPEN = 64;
    private static final int LONGEST_ROW = 127;

    private static final int WHOLE_NUMBER = 1;
    private static final int REAL = 2;
    private static final int NAME_TO_DO = 3;
    private static final int NAME_ITSELF = 4;
    private static final int TEXT = 5;
    private static final int OPEN_BRACE = 6;
    private static final int CLOSE_BRACE = 7;

    private static final int RIGHT = 0;
    private static final int NOTHING_TO_CLOSE = 1;
    private static final int TEXT_WITHOUT_END = 2;
    private static final int NO_DIGIT = 3;
    private static final int BRACE_ALONE = 4;
    private static final int NUMBER_TOO_GREAT = 5;
    private static final int ROW_TOO_LONG = 6;
    private static final int BRACES_TOO_DEEP = 7;
    private static final int WORDS_TOO_MANY = 8;

    private final ByteRow tape;
    private final WordList list;
    private final TextStore store;
    private final IntRow open;
    private final Numeral numeral;
    private int here;
    private int why;
    private int where;

    public PageWords() {
        tape = new ByteRow();
        list = new WordList();
        store = new TextStore();
        open = new IntRow(MOST_OPEN);
        numeral = new Numeral();
        here = 0;
        why = RIGHT;
        where = 0;
    }

    public int type(long bytes, int n) {
        if (n < 1 || n > 8) {
            return BAD;
        }
        if (tape.count() + n > MOST_BYTES) {
            return FULL;
        }
        for (int shift = 8 * (n - 1); shift >= 0; shift -= 8) {
            tape.add((int) (bytes >>> shift));
        }
        return tape.count();
    }

    public int cut() {
        int end = tape.count();
        startAnew(end);
        // Every step goes on by a byte at least, so there are never more steps than bytes.
        for (int step = 0; step < end && here < end && why == RIGHT; step++) {
            if (!leaveOut()) {
                cutWord();
            }
        }
        if (why == RIGHT && open.count() > 0) {
            goWrong(BRACE_ALONE, end);
        }
        tape.shorten(0);
        return why == RIGHT ? list.count() : -why;
    }

    public int place() {
        return where;
    }

    public int words() {
        return list.count();
    }

    public int kind(int w) {
        return list.kindOf(w);
    }

    public int number(int w) {
        return list.numberOf(w);
    }

    public int begin(int w) {
        return list.beginOf(w);
    }

    public int texts() {
        return store.count();
    }

    public int size(int t) {
        return store.sizeOf(t);
    }

    public int at(int t, int k) {
        return store.byteOf(t, k);
    }

    private void startAnew(int end) {
        list.forget();
        store.forget();
        open.shorten(0);
        here = 0;
        why = RIGHT;
        where = end;
    }

    private void goWrong(int reason, int place) {
        why = reason;
        where = place;
    }

    /** Goes on behind a blank or a comment; answers false when a word begins here. */
    private boolean leaveOut() {
        int b = tape.get(here);
        if (isBlank(b)) {
            here++;
            return true;
        }
        if (b == '%') {
            skipComment();
            return true;
        }
        return false;
    }

    private void cutWord() {
        if (list.count() >= MOST_WORDS) {
            goWrong(WORDS_TOO_MANY, here);
            return;
        }
        switch (tape.get(here)) {
            case '(':
                cutBracketText();
                break;
            case '<':
            case '>':
                cutAngle();
                break;
            case '[':
            case ']':
                addName(NAME_TO_DO, here, here, here + 1);
                break;
            case '{':
                cutOpenBrace();
                break;
            case '}':
                cutCloseBrace();
                break;
            case '/':
                cutNameItself();
                break;
            case ')':
                goWrong(NOTHING_TO_CLOSE, here);
                break;
            default:
                cutRow();
                break;
        }
    }

    private void skipComment() {
        while (here < tape.count() && !isLineEnd(tape.get(here))) {
            here++;
        }
    }

    private void cutRow() {
        int begin = here;
        int end = rowEnd(begin);
        if (end - begin > LONGEST_ROW) {
            goWrong(ROW_TOO_LONG, begin);
            return;
        }
        int kind = numeral.read(tape, begin, end);
        if (kind == NAME_TO_DO) {
            addName(NAME_TO_DO, begin, begin, end);
        } else if (numeral.fits()) {
            list.add(kind, numeral.value(), begin);
            here = end;
        } else {
            goWrong(NUMBER_TOO_GREAT, begin);
        }
    }

    private void cutNameItself() {
        int begin = here;
        int end = rowEnd(begin + 1);
        if (end - begin - 1 > LONGEST_ROW) {
            goWrong(ROW_TOO_LONG, begin);
        } else {
            addName(NAME_ITSELF, begin, begin + 1, end);
        }
    }

    /** Looks one byte beyond the longest row, so that its caller sees a row that is too long. */
    private int rowEnd(int from) {
        int end = from;
        while (end < tape.count() && end - from <= LONGEST_ROW && isPlain(tape.get(end))) {
            end++;
        }
        return end;
    }

    private void addName(int kind, int begin, int from, int end) {
        for (int p = from; p < end; p++) {
            store.put(tape.get(p));
        }
        list.add(kind, store.keep(), begin);
        here = end;
    }

    private void cutOpenBrace() {
        if (open.count() >= MOST_OPEN) {
            goWrong(BRACES_TOO_DEEP, here);
            return;
        }
        open.add(list.count());
        list.add(OPEN_BRACE, BAD, here);
        here++;
    }

    private void cutCloseBrace() {
        if (open.count() == 0) {
            goWrong(BRACE_ALONE, here);
            return;
        }
        int opener = open.get(open.count() - 1);
        open.shorten(open.count() - 1);
        list.setNumber(opener, list.count());
        list.add(CLOSE_BRACE, opener, here);
        here++;
    }

    private void cutAngle() {
        int b = tape.get(here);
        if (tape.get(here + 1) == b) {
            addName(NAME_TO_DO, here, here, here + 2);
        } else if (b == '<') {
            cutDigitText();
        } else {
            goWrong(NOTHING_TO_CLOSE, here);
        }
    }

    private void cutDigitText() {
        int begin = here;
        int end = tape.count();
        int waiting = BAD;
        for (here++; here < end && tape.get(here) != '>'; here++) {
            int b = tape.get(here);
            int digit = digitValue(b);
            if (isBlank(b)) {
                continue;
            }
            if (digit < 0 || digit > 15) {
                goWrong(NO_DIGIT, here);
                return;
            }
            if (waiting == BAD) {
                waiting = digit;
            } else {
                store.put(16 * waiting + digit);
                waiting = BAD;
            }
        }
        if (waiting != BAD) {
            store.put(16 * waiting);
        }
        endText(begin, here < end);
    }

    private void cutBracketText() {
        int begin = here;
        int end = tape.count();
        int depth = 1;
        here++;
        // Every step goes on by a byte at least, so there are never more steps than bytes.
        for (int step = 0; step < end && here < end; step++) {
            int b = tape.get(here);
            depth += b == '(' ? 1 : b == ')' ? -1 : 0;
            if (depth == 0) {
                break;
            }
            if (b == '\\') {
                takeEscaped();
            } else if (isLineEnd(b)) {
                skipLineEnd();
                store.put(10);
            } else {
                here++;
                store.put(b);
            }
        }
        endText(begin, depth == 0);
    }

    private void takeEscaped() {
        here++;
        int b = tape.get(here);
        if (isLineEnd(b)) {
            skipLineEnd();
        } else if (isOctal(b)) {
            store.put(readOctal());
        } else if (b != BAD) {
            here++;
            store.put(meant(b));
        }
    }

    private int readOctal() {
        int sum = 0;
        for (int k = 0; k < 3 && isOctal(tape.get(here)); k++) {
            sum = 8 * sum + tape.get(here) - '0';
            here++;
        }
        return sum;
    }

    private void skipLineEnd() {
        boolean pair = tape.get(here) == 13 && tape.get(here + 1) == 10;
        here += pair ? 2 : 1;
    }

    /** The place is at the text's closing mark, or at the tape's end. */
    private void endText(int begin, boolean closed) {
        if (closed) {
            list.add(TEXT, store.keep(), begin);
            here++;
        } else {
            goWrong(TEXT_WITHOUT_END, tape.count());
        }
    }

    private static int meant(int b) {
        switch (b) {
            case 'n':
                return 10;
            case 'r':
                return 13;
            case 't':
                return 9;
            case 'b':
                return 8;
            case 'f':
                return 12;
            default:
                return b;
        }
    }

    private static boolean isBlank(int b) {
        return b == 0 || b == 9 || b == 10 || b == 12 || b == 13 || b == 32;
    }

    private static boolean isLineEnd(int b) {
        return b == 10 || b == 13;
    }

    private static boolean isMark(int b) {
        switch (b) {
            case '(':
            case ')':
            case '<':
            case '>':
            case '[':
            case ']':
            case '{':
            case '}':
            case '/':
            case '%':
                return true;
            default:
                return false;
        }
    }

    private static boolean isPlain(int b) {
        return !isBlank(b) && !isMark(b);
    }

    private static boolean isOctal(int b) {
        return b >= '0' && b <= '7';
    }

    /** What a byte is worth as a digit of any base up to 36, or BAD. */
    private static int digitValue(int b) {
        if (b >= '0' && b <= '9') {
            return b - '0';
        }
        if (b >= 'a' && b <= 'z') {
            return b - 'a' + 10;
        }
        if (b >= 'A' && b <= 'Z') {
            return b - 'A' + 10;
        }
        return BAD;
    }

    /** Starts small and grows, because all objects of a run share one room. */
    private static final class ByteRow {
        private static final int FIRST_LENGTH = 512;

        private byte[] held;
        private int count;

        ByteRow() {
            held = new byte[FIRST_LENGTH];
            count = 0;
        }

        int count() {
            return count;
        }

        /** The lowest eight bits are kept. */
        void add(int b) {
            if (count >= MOST_BYTES) {
                return;
            }
            if (count >= held.length) {
                held = Arrays.copyOf(held, 2 * held.length);
            }
            held[count] = (byte) b;
            count++;
        }

        int get(int k) {
            return k >= 0 && k < count ? held[k] & 255 : BAD;
        }

        void shorten(int length) {
            if (length >= 0 && length < count) {
                count = length;
            }
        }
    }

    /** Starts small and grows, because all objects of a run share one room. */
    private static final class IntRow {
        private static final int FIRST_LENGTH = 64;

        private final int most;
        private int[] held;
        private int count;

        IntRow(int most) {
            this.most = most;
            held = new int[FIRST_LENGTH];
            count = 0;
        }

        int count() {
            return count;
        }

        void add(int x) {
            if (count >= most) {
                return;
            }
            if (count >= held.length) {
                held = Arrays.copyOf(held, 2 * held.length);
            }
            held[count] = x;
            count++;
        }

        int get(int k) {
            return k >= 0 && k < count ? held[k] : BAD;
        }

        void set(int k, int x) {
            if (k >= 0 && k < count) {
                held[k] = x;
            }
        }

        void shorten(int length) {
            if (length >= 0 && length < count) {
                count = length;
            }
        }
    }

    private static final class WordList {
        private final IntRow kinds;
        private final IntRow numbers;
        private final IntRow begins;

        WordList() {
            kinds = new IntRow(MOST_WORDS);
            numbers = new IntRow(MOST_WORDS);
            begins = new IntRow(MOST_WORDS);
        }

        int count() {
            return kinds.count();
        }

        void forget() {
            kinds.shorten(0);
            numbers.shorten(0);
            begins.shorten(0);
        }

        void add(int kind, int number, int begin) {
            kinds.add(kind);
            numbers.add(number);
            begins.add(begin);
        }

        int kindOf(int w) {
            return kinds.get(w);
        }

        int numberOf(int w) {
            return numbers.get(w);
        }

        void setNumber(int w, int number) {
            numbers.set(w, number);
        }

        int beginOf(int w) {
            return begins.get(w);
        }
    }

    /**
     * Each different row of bytes, once. The bytes of all texts together are never more than those
     * of the tape that they were cut from, and the texts never more than the words.
     */
    private static final class TextStore {
        private static final int BUCKETS = 1024;

        private final ByteRow bytes;
        private final IntRow starts;
        private final IntRow sizes;
        private final IntRow hashes;
        private final IntRow older;
        private final int[] newest;
        private int kept;

        TextStore() {
            bytes = new ByteRow();
            starts = new IntRow(MOST_WORDS);
            sizes = new IntRow(MOST_WORDS);
            hashes = new IntRow(MOST_WORDS);
            older = new IntRow(MOST_WORDS);
            newest = new int[BUCKETS];
            Arrays.fill(newest, BAD);
            kept = 0;
        }

        int count() {
            return starts.count();
        }

        int sizeOf(int t) {
            return sizes.get(t);
        }

        int byteOf(int t, int k) {
            if (k < 0 || k >= sizes.get(t)) {
                return BAD;
            }
            return bytes.get(starts.get(t) + k);
        }

        /** Empties only the buckets in use, because most tapes are short. */
        void forget() {
            for (int t = 0; t < count(); t++) {
                newest[bucketOf(hashes.get(t))] = BAD;
            }
            bytes.shorten(0);
            starts.shorten(0);
            sizes.shorten(0);
            hashes.shorten(0);
            older.shorten(0);
            kept = 0;
        }

        /** A byte more of the text that keep() will end. */
        void put(int b) {
            bytes.add(b);
        }

        /** Answers the number of the text whose bytes were put since the latest keep(). */
        int keep() {
            int hash = hashOfNew();
            int bucket = bucketOf(hash);
            int known = newest[bucket];
            for (int seen = 0; seen < count() && known != BAD; seen++) {
                if (hashes.get(known) == hash && equalsNew(known)) {
                    bytes.shorten(kept);
                    return known;
                }
                known = older.get(known);
            }
            int fresh = count();
            starts.add(kept);
            sizes.add(bytes.count() - kept);
            hashes.add(hash);
            older.add(newest[bucket]);
            newest[bucket] = fresh;
            kept = bytes.count();
            return fresh;
        }

        private int hashOfNew() {
            int hash = 0;
            for (int p = kept; p < bytes.count(); p++) {
                hash = 31 * hash + bytes.get(p) + 1;
            }
            return hash;
        }

        private boolean equalsNew(int t) {
            int size = sizes.get(t);
            if (size != bytes.count() - kept) {
                return false;
            }
            int start = starts.get(t);
            for (int k = 0; k < size; k++) {
                if (bytes.get(start + k) != bytes.get(kept + k)) {
                    return false;
                }
            }
            return true;
        }

        private static int bucketOf(int hash) {
            return (hash ^ (hash >>> 15)) & (BUCKETS - 1);
        }
    }

    /** Reads a row as a number; what it is worth, and whether that fits, is asked behind that. */
    private static final class Numeral {
        private static final long ABOVE_32_BITS = 1L << 32;
        private static final long ABOVE_31_BITS = 1L << 31;
        private static final int UNIT = 65536;
        // A row has at most 127 bytes, so with an exponent as far as this, or with a digit of the
        // fraction behind this many others, all of its digits are far too great or far too small.
        private static final int FAR_EXPONENT = 1000;
        private static final int FRACTION_DIGITS = 160;
        private static final int[] TENS = {1, 10, 100, 1000, 10000};

        private final int[] fraction;
        private boolean negative;
        private int digitsBegin;
        private int digitsEnd;
        private int wholeDigits;
        private int exponent;
        private int value;
        private boolean fits;

        Numeral() {
            fraction = new int[FRACTION_DIGITS];
        }

        int value() {
            return value;
        }

        boolean fits() {
            return fits;
        }

        /**
         * Answers WHOLE_NUMBER or REAL, or NAME_TO_DO when the row is no number. The byte at the
         * row's end, if there is one, is not plain, so that a look at it finds no part of a number.
         */
        int read(ByteRow tape, int from, int end) {
            int sign = tape.get(from);
            negative = sign == '-';
            digitsBegin = isSign(sign) ? from + 1 : from;
            digitsEnd = skipDigits(tape, digitsBegin, end);
            wholeDigits = digitsEnd - digitsBegin;
            if (digitsEnd == end) {
                return wholeDigits > 0 ? readWhole(tape) : NAME_TO_DO;
            }
            if (tape.get(digitsEnd) == '#') {
                return isSign(sign) ? NAME_TO_DO : readWithBase(tape, end);
            }
            if (!findFraction(tape, end) || !findExponent(tape, end)) {
                return NAME_TO_DO;
            }
            return readReal(tape);
        }

        private static int skipDigits(ByteRow tape, int from, int end) {
            int p = from;
            while (p < end && isDigit(tape.get(p))) {
                p++;
            }
            return p;
        }

        private static boolean isSign(int b) {
            return b == '+' || b == '-';
        }

        private static boolean isDigit(int b) {
            return b >= '0' && b <= '9';
        }

        private int readWhole(ByteRow tape) {
            long sum = sumDigits(tape, digitsBegin, digitsEnd, 10);
            fits = sum < ABOVE_31_BITS || negative && sum == ABOVE_31_BITS;
            value = (int) (negative ? -sum : sum);
            return WHOLE_NUMBER;
        }

        private int readWithBase(ByteRow tape, int end) {
            int base = (int) sumDigits(tape, digitsBegin, digitsEnd, 10);
            int from = digitsEnd + 1;
            if (wholeDigits > 2 || base < 2 || base > 36 || from >= end) {
                return NAME_TO_DO;
            }
            for (int p = from; p < end; p++) {
                int digit = digitValue(tape.get(p));
                if (digit < 0 || digit >= base) {
                    return NAME_TO_DO;
                }
            }
            long sum = sumDigits(tape, from, end, base);
            fits = sum < ABOVE_32_BITS;
            value = (int) sum;
            return WHOLE_NUMBER;
        }

        /** Stays at 2^32 when the digits say more, so that no row is too long to be added up. */
        private static long sumDigits(ByteRow tape, int from, int end, int base) {
            long sum = 0;
            for (int p = from; p < end; p++) {
                sum = Math.min(ABOVE_32_BITS, base * sum + digitValue(tape.get(p)));
            }
            return sum;
        }

        /** Takes the digits behind a point to those before it; answers whether there are any. */
        private boolean findFraction(ByteRow tape, int end) {
            int digits = wholeDigits;
            if (tape.get(digitsEnd) == '.') {
                int from = digitsEnd + 1;
                digitsEnd = skipDigits(tape, from, end);
                digits += digitsEnd - from;
            }
            return digits > 0;
        }

        /** Answers whether behind the digits there is an exponent, or nothing. */
        private boolean findExponent(ByteRow tape, int end) {
            exponent = 0;
            if (digitsEnd == end) {
                return true;
            }
            int letter = tape.get(digitsEnd);
            int sign = tape.get(digitsEnd + 1);
            int from = digitsEnd + (isSign(sign) ? 2 : 1);
            if (letter != 'e' && letter != 'E' || from >= end || skipDigits(tape, from, end) != end) {
                return false;
            }
            int sum = (int) Math.min(FAR_EXPONENT, sumDigits(tape, from, end, 10));
            exponent = sign == '-' ? -sum : sum;
            return true;
        }

        private int readReal(ByteRow tape) {
            fits = true;
            long whole = placeDigits(tape);
            long sum = whole * UNIT + multiplyFraction();
            int rest = compareFractionToHalf();
            if (rest > 0 || rest == 0 && !negative) {
                sum++;
            }
            fits = fits && sum < ABOVE_31_BITS;
            value = (int) (negative ? -sum : sum);
            return REAL;
        }

        /** Puts each digit where its power of ten says; answers the whole part. */
        private long placeDigits(ByteRow tape) {
            Arrays.fill(fraction, 0);
            long whole = 0;
            int power = wholeDigits - 1 + exponent;
            for (int p = digitsBegin; p < digitsEnd; p++) {
                if (tape.get(p) == '.') {
                    continue;
                }
                int digit = tape.get(p) - '0';
                int behind = -1 - power;
                if (behind >= 0 && behind < fraction.length) {
                    fraction[behind] = digit;
                } else if (power >= 0 && power < TENS.length) {
                    whole += digit * TENS[power];
                } else if (power >= 0 && digit != 0) {
                    fits = false;
                }
                power--;
            }
            return whole;
        }

        /** Leaves in the row what is behind the point after multiplying; answers what is before it. */
        private int multiplyFraction() {
            int carry = 0;
            for (int k = fraction.length - 1; k >= 0; k--) {
                int product = fraction[k] * UNIT + carry;
                fraction[k] = product % 10;
                carry = product / 10;
            }
            return carry;
        }

        private int compareFractionToHalf() {
            if (fraction[0] != 5) {
                return Integer.compare(fraction[0], 5);
            }
            for (int k = 1; k < fraction.length; k++) {
                if (fraction[k] != 0) {
                    return 1;
                }
            }
            return 0;
        }
    }
}
