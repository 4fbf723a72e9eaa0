/** Reads the tokens of programs for a page machine from bytes as they come. */
public final class TokenReader {
    public static final int NONE = -1;

    private static final int NOT_YET = 0;
    private static final int NUMBER = 1;
    private static final int REAL = 2;
    private static final int NAME = 3;
    private static final int LITERAL = 4;
    private static final int INSTANT = 5;
    private static final int STRING = 6;
    private static final int ROW_OPENS = 7;
    private static final int ROW_CLOSES = 8;
    private static final int BRACE_OPENS = 9;
    private static final int BRACE_CLOSES = 10;
    private static final int PAIRS_OPEN = 11;
    private static final int PAIRS_CLOSE = 12;
    private static final int TRUTH = 13;
    private static final int NUMBERED_LITERAL = 14;
    private static final int NUMBERED_NAME = 15;
    private static final int ROW = 16;
    private static final int ALL_READ = 20;

    private static final int TOO_MUCH = -2;
    private static final int BAD_BYTE = -3;
    private static final int ALONE = -4;
    private static final int BAD_BINARY = -5;
    private static final int TOO_GREAT = -6;
    private static final int NOT_WHOLE = -7;

    private static final int MOST_BYTES = 3000;
    private static final int MOST_IN_WORD = 100;
    private static final int MOST_IN_STRING = 400;
    private static final int MOST_IN_ROW = 60;
    private static final int MOST_BRACES = 20;
    private static final int FIRST_BASE = 10;
    private static final int NO_DIGIT = 36;
    private static final long TWO_TO_32 = 4294967296L;
    private static final long GREATEST_NUMBER = 2147483647L;
    private static final long LEAST_NUMBER = -2147483648L;

    private final Bytes bytes;
    private final Words words;
    private final Strings strings;
    private final Binaries binaries;
    private final int[] bracePlaces;
    private int braces;
    private Token latest;
    // A TOKEN is read into the draft, so that the latest one stays when nothing comes of it.
    private Token draft;
    private int latestPlace;

    public TokenReader() {
        bytes = new Bytes();
        words = new Words(bytes);
        strings = new Strings(bytes);
        binaries = new Binaries(bytes);
        bracePlaces = new int[MOST_BRACES];
        latest = new Token();
        draft = new Token();
    }

    public int add(byte b) throws IllegalStateException, UnsupportedOperationException {
        if (bytes.ended) {
            throw new IllegalStateException("the END was told");
        }
        if (!bytes.append(b)) {
            throw new UnsupportedOperationException("there are 3000 bytes");
        }
        return bytes.count;
    }

    public int end() {
        if (bytes.ended) {
            return NONE;
        }
        bytes.ended = true;
        return bytes.count - bytes.read;
    }

    public int next() {
        int start = bytes.firstNotWhite();
        if (start == bytes.count) {
            return nothingFollows();
        }
        draft.startAt(start);
        int answer = readToken(bytes.at(start));
        if (answer == NOT_YET) {
            return NOT_YET;
        }
        bytes.read = draft.after;
        latestPlace = draft.place;
        if (answer > 0) {
            keepDraft();
        }
        return answer;
    }

    public long whole() {
        return latest.wholeValue;
    }

    public double real() {
        return latest.realValue;
    }

    public int sign(int i) {
        return latest.textAt(i);
    }

    public int binary(int i, int what) throws IndexOutOfBoundsException {
        if (!latest.hasInRow(i) || what < 0 || what > 1) {
            throw new IndexOutOfBoundsException("no such number of a ROW");
        }
        if (what == 0) {
            return latest.rowOfReals ? 1 : 0;
        }
        return latest.rowNumbers[i];
    }

    public double binaryReal(int i) throws IndexOutOfBoundsException {
        if (!latest.hasInRow(i)) {
            throw new IndexOutOfBoundsException("no such number of a ROW");
        }
        return latest.rowReals[i];
    }

    public int place() {
        return latestPlace;
    }

    public int base() {
        return words.latestBase;
    }

    public int depth() {
        return braces;
    }

    public byte octet(int i) throws ArrayIndexOutOfBoundsException {
        if (!bytes.has(i)) {
            throw new ArrayIndexOutOfBoundsException("no such byte came");
        }
        return (byte) bytes.at(i);
    }

    public void clear() {
        bytes.forget();
        words.latestBase = FIRST_BASE;
        braces = 0;
        latest.startAt(0);
        latestPlace = 0;
    }

    private void keepDraft() {
        Token before = latest;
        latest = draft;
        draft = before;
    }

    private int nothingFollows() {
        if (!bytes.ended) {
            return NOT_YET;
        }
        if (braces <= 0) {
            return ALL_READ;
        }
        latestPlace = bracePlaces[braces - 1];
        braces = 0;
        return NOT_WHOLE;
    }

    private int readToken(int first) {
        if (first >= 128 && first <= 159) {
            return binaries.readBinary(draft, first);
        }
        switch (first) {
            case '/': return words.readSlashed(draft);
            case '(': return strings.readRound(draft);
            case ')': return ALONE;
            case '<': return readLess();
            case '>': return readGreater();
            case '[': return ROW_OPENS;
            case ']': return ROW_CLOSES;
            case '{': return openBrace();
            case '}': return closeBrace();
            default: return words.readWord(draft);
        }
    }

    private int readLess() {
        switch (bytes.at(draft.place + 1)) {
            case NONE: return bytes.lacking(draft);
            case '<': return pairMark(PAIRS_OPEN);
            case '~': return strings.readBase85(draft);
            default: return strings.readBase16(draft);
        }
    }

    private int readGreater() {
        switch (bytes.at(draft.place + 1)) {
            case NONE: return bytes.ended ? ALONE : NOT_YET;
            case '>': return pairMark(PAIRS_CLOSE);
            default: return ALONE;
        }
    }

    private int pairMark(int kind) {
        draft.after = draft.place + 2;
        return kind;
    }

    private int openBrace() {
        if (braces >= bracePlaces.length) {
            return TOO_MUCH;
        }
        bracePlaces[braces] = draft.place;
        braces++;
        return BRACE_OPENS;
    }

    private int closeBrace() {
        if (braces == 0) {
            return ALONE;
        }
        braces--;
        return BRACE_CLOSES;
    }

    /** The value of a digit of a base up to 36, or NO_DIGIT, which is below no base. */
    private static int digitOf(int b) {
        if (b >= '0' && b <= '9') {
            return b - '0';
        }
        if (b >= 'a' && b <= 'z') {
            return b - 'a' + 10;
        }
        if (b >= 'A' && b <= 'Z') {
            return b - 'A' + 10;
        }
        return NO_DIGIT;
    }

    /** Step by step, as the document rounds at each step. */
    private static double scaled(double start, double by, int times) {
        double value = start;
        for (int k = 0; k < times; k++) {
            value = value * by;
        }
        for (int k = 0; k > times; k--) {
            value = value / by;
        }
        return value;
    }

    /** All bytes that came, how many of them are read, and whether the END was told. */
    private static final class Bytes {
        private final byte[] came = new byte[MOST_BYTES];
        int count;
        int read;
        boolean ended;

        boolean append(byte b) {
            if (count >= came.length) {
                return false;
            }
            came[count] = b;
            count++;
            return true;
        }

        void forget() {
            count = 0;
            read = 0;
            ended = false;
        }

        boolean has(int i) {
            return i >= 0 && i < count;
        }

        /** Byte i as 0 .. 255, or NONE where none came. */
        int at(int i) {
            return has(i) ? came[i] & 255 : NONE;
        }

        int firstNotWhite() {
            boolean inComment = false;
            for (int i = read; i < count; i++) {
                int b = at(i);
                inComment = inComment ? b != 10 && b != 12 && b != 13 : b == '%';
                if (!inComment && !isWhite(b)) {
                    return i;
                }
            }
            return count;
        }

        /** The first byte from there on that is not PLAIN. */
        int wordEnd(int from) {
            for (int i = from; i < count; i++) {
                if (!isPlain(at(i))) {
                    return i;
                }
            }
            return count;
        }

        /** What a TOKEN answers that wants more bytes than there are. */
        int lacking(Token token) {
            if (!ended) {
                return NOT_YET;
            }
            token.after = count;
            return NOT_WHOLE;
        }

        static boolean isWhite(int b) {
            return b == 0 || b == 9 || b == 10 || b == 12 || b == 13 || b == 32;
        }

        private static boolean isOwn(int b) {
            switch (b) {
                case '(': case ')': case '<': case '>': case '[': case ']':
                case '{': case '}': case '/': case '%':
                    return true;
                default:
                    return false;
            }
        }

        private static boolean isPlain(int b) {
            return b > 159 || b < 128 && !isWhite(b) && !isOwn(b);
        }
    }

    /** What a TOKEN tells: its places, its value, its text and its row. */
    private static final class Token {
        int place;
        int after;
        long wholeValue;
        double realValue;
        // One more than a STRING may have, so that too many are seen.
        private final byte[] text = new byte[MOST_IN_STRING + 1];
        int length;
        final int[] rowNumbers = new int[MOST_IN_ROW];
        final double[] rowReals = new double[MOST_IN_ROW];
        boolean rowOfReals;
        private int rowLength;

        void startAt(int start) {
            place = start;
            after = start + 1;
            wholeValue = 0L;
            realValue = 0.0;
            length = 0;
            rowLength = 0;
        }

        void put(int b) {
            if (length < text.length) {
                text[length] = (byte) b;
                length++;
            }
        }

        /** Byte i of the text as 0 .. 255, or NONE where it has none. */
        int textAt(int i) {
            return i >= 0 && i < length ? text[i] & 255 : NONE;
        }

        int asText(int kind, int most) {
            if (length > most) {
                return TOO_MUCH;
            }
            wholeValue = length;
            return kind;
        }

        int asWhole(int kind, long value) {
            length = 0;
            wholeValue = value;
            return kind;
        }

        int asReal(double value) {
            length = 0;
            wholeValue = 0L;
            realValue = value;
            return REAL;
        }

        void putInRow(int number, double real) {
            if (rowLength < rowNumbers.length && rowLength < rowReals.length) {
                rowNumbers[rowLength] = number;
                rowReals[rowLength] = real;
                rowLength++;
            }
        }

        boolean hasInRow(int i) {
            return i >= 0 && i < rowLength;
        }

        int wrongByte(int answer, int at) {
            place = at;
            after = at + 1;
            return answer;
        }
    }

    /** Reads WORDS: numbers, and names of three sorts. */
    private static final class Words {
        private final Bytes bytes;
        int latestBase = FIRST_BASE;

        Words(Bytes bytes) {
            this.bytes = bytes;
        }

        int readSlashed(Token token) {
            int second = token.place + 1;
            if (bytes.at(second) == '/') {
                return readText(token, INSTANT, second + 1);
            }
            return readText(token, LITERAL, second);
        }

        int readWord(Token token) {
            int answer = readText(token, NAME, token.place);
            if (answer == NAME) {
                answer = readInteger(token);
            }
            if (answer == NAME) {
                answer = readWithBase(token);
            }
            if (answer == NAME) {
                answer = readReal(token);
            }
            return answer;
        }

        private int readText(Token token, int kind, int from) {
            int to = bytes.wordEnd(from);
            if (to == bytes.count && !bytes.ended) {
                return NOT_YET;
            }
            for (int i = from; i < to; i++) {
                token.put(bytes.at(i));
            }
            token.after = to;
            return token.asText(kind, MOST_IN_WORD);
        }

        private int readInteger(Token token) {
            int from = behindSign(token, 0);
            if (from == token.length || digitsEnd(token, from, 10) != token.length) {
                return NAME;
            }
            long size = valueOf(token, from, token.length, 10);
            long value = token.textAt(0) == '-' ? -size : size;
            if (value < LEAST_NUMBER || value > GREATEST_NUMBER) {
                return NAME;
            }
            latestBase = 10;
            return token.asWhole(NUMBER, value);
        }

        private int readWithBase(Token token) {
            int mark = digitsEnd(token, 0, 10);
            if (mark < 1 || mark > 2 || token.textAt(mark) != '#') {
                return NAME;
            }
            int from = mark + 1;
            int base = (int) valueOf(token, 0, mark, 10);
            if (base < 2 || base > 36 || from == token.length
                    || digitsEnd(token, from, base) != token.length) {
                return NAME;
            }
            long value = valueOf(token, from, token.length, base);
            if (value >= TWO_TO_32) {
                return TOO_GREAT;
            }
            latestBase = base;
            return token.asWhole(NUMBER, value > GREATEST_NUMBER ? value - TWO_TO_32 : value);
        }

        private int readReal(Token token) {
            int from = behindSign(token, 0);
            int point = digitsEnd(token, from, 10);
            boolean pointed = token.textAt(point) == '.';
            int to = pointed ? digitsEnd(token, point + 1, 10) : point;
            int behindPoint = pointed ? to - point - 1 : 0;
            boolean hasDigits = point - from + behindPoint > 0;
            if (!hasDigits || to < token.length && !isExponent(token, to)) {
                return NAME;
            }
            int exponent = to < token.length ? exponentAt(token, to) : 0;
            double size = scaled(digitsAsReal(token, from, to), 10.0, exponent - behindPoint);
            if (size > 1.7976931348623157E308) {
                return TOO_GREAT;
            }
            return token.asReal(token.textAt(0) == '-' ? 0.0 - size : size);
        }

        private static boolean isExponent(Token token, int at) {
            int letter = token.textAt(at);
            int from = behindSign(token, at + 1);
            int digits = token.length - from;
            return (letter == 'e' || letter == 'E') && digits >= 1 && digits <= 3
                    && digitsEnd(token, from, 10) == token.length;
        }

        private static int exponentAt(Token token, int at) {
            int size = (int) valueOf(token, behindSign(token, at + 1), token.length, 10);
            return token.textAt(at + 1) == '-' ? -size : size;
        }

        private static double digitsAsReal(Token token, int from, int to) {
            double value = 0.0;
            for (int i = from; i < to; i++) {
                if (token.textAt(i) != '.') {
                    value = value * 10.0 + digitOf(token.textAt(i));
                }
            }
            return value;
        }

        private static int behindSign(Token token, int at) {
            int b = token.textAt(at);
            return b == '+' || b == '-' ? at + 1 : at;
        }

        private static int digitsEnd(Token token, int from, int base) {
            for (int i = from; i < token.length; i++) {
                if (digitOf(token.textAt(i)) >= base) {
                    return i;
                }
            }
            return token.length;
        }

        /** Stops growing at 4294967296: all from there on is too great alike. */
        private static long valueOf(Token token, int from, int to, int base) {
            long value = 0L;
            for (int i = from; i < to; i++) {
                value = Math.min(value * base + digitOf(token.textAt(i)), TWO_TO_32);
            }
            return value;
        }
    }

    /** Reads STRINGS in ( ), in < > and in <~ ~>. */
    private static final class Strings {
        private final Bytes bytes;

        Strings(Bytes bytes) {
            this.bytes = bytes;
        }

        int readRound(Token token) {
            int open = 1;
            int i = token.place + 1;
            while (i < bytes.count) {
                int b = bytes.at(i);
                if (b == '(') {
                    open++;
                }
                if (b == ')') {
                    open--;
                }
                if (open == 0) {
                    return wholeString(token, i + 1);
                }
                // At least 1 in any case, so that the loop's end shows here.
                i += Math.max(1, putOne(token, i, b));
            }
            return bytes.lacking(token);
        }

        /** Puts what stands at i, and answers how many bytes it took. */
        private int putOne(Token token, int i, int b) {
            if (b == '\\') {
                return 1 + putEscaped(token, i + 1);
            }
            int lineEnd = lineEndWidth(i);
            if (lineEnd > 0) {
                token.put(10);
                return lineEnd;
            }
            token.put(b);
            return 1;
        }

        /** Puts what a backslash before i makes of it, and answers how many bytes from i on that took. */
        private int putEscaped(Token token, int i) {
            int lineEnd = lineEndWidth(i);
            if (lineEnd > 0) {
                return lineEnd;
            }
            int digits = octalWidth(i);
            if (digits > 0) {
                token.put(octalAt(i, digits));
                return digits;
            }
            token.put(escaped(bytes.at(i)));
            return 1;
        }

        private int lineEndWidth(int i) {
            int b = bytes.at(i);
            if (b == 13) {
                return bytes.at(i + 1) == 10 ? 2 : 1;
            }
            return b == 10 ? 1 : 0;
        }

        private int octalWidth(int i) {
            int width = 0;
            while (width < 3 && digitOf(bytes.at(i + width)) < 8) {
                width++;
            }
            return width;
        }

        private int octalAt(int i, int width) {
            int value = 0;
            for (int k = 0; k < width; k++) {
                value = value * 8 + digitOf(bytes.at(i + k));
            }
            return value & 255;
        }

        private static int escaped(int b) {
            switch (b) {
                case 'n': return 10;
                case 'r': return 13;
                case 't': return 9;
                case 'b': return 8;
                case 'f': return 12;
                default: return b;
            }
        }

        int readBase16(Token token) {
            int high = NONE;
            for (int i = token.place + 1; i < bytes.count; i++) {
                int b = bytes.at(i);
                if (Bytes.isWhite(b)) {
                    continue;
                }
                if (b == '>') {
                    putLastAlone(token, high);
                    return wholeString(token, i + 1);
                }
                int digit = digitOf(b);
                if (digit >= 16) {
                    return token.wrongByte(BAD_BYTE, i);
                }
                if (high == NONE) {
                    high = digit;
                } else {
                    token.put(high * 16 + digit);
                    high = NONE;
                }
            }
            return bytes.lacking(token);
        }

        private static void putLastAlone(Token token, int high) {
            if (high != NONE) {
                token.put(high * 16);
            }
        }

        int readBase85(Token token) {
            long group = 0L;
            int digits = 0;
            for (int i = token.place + 2; i < bytes.count; i++) {
                int b = bytes.at(i);
                if (Bytes.isWhite(b)) {
                    continue;
                }
                if (b == '~') {
                    return endBase85(token, i, group, digits);
                }
                if (b == 'z' && digits == 0) {
                    putHighest(token, 0L, 4);
                    continue;
                }
                if (b < 33 || b > 117) {
                    return token.wrongByte(BAD_BYTE, i);
                }
                group = group * 85L + b - 33L;
                digits++;
                if (group >= TWO_TO_32) {
                    return token.wrongByte(BAD_BYTE, i);
                }
                if (digits == 5) {
                    putHighest(token, group, 4);
                    group = 0L;
                    digits = 0;
                }
            }
            return bytes.lacking(token);
        }

        private int endBase85(Token token, int at, long group, int digits) {
            long filled = group;
            for (int k = digits; k < 5; k++) {
                filled = filled * 85L + 84L;
            }
            if (digits == 1 || digits > 1 && filled >= TWO_TO_32) {
                return token.wrongByte(BAD_BYTE, at);
            }
            int behind = bytes.at(at + 1);
            if (behind == NONE) {
                return bytes.lacking(token);
            }
            if (behind != '>') {
                return token.wrongByte(BAD_BYTE, at + 1);
            }
            putHighest(token, filled, digits - 1);
            return wholeString(token, at + 2);
        }

        private static void putHighest(Token token, long group, int count) {
            for (int k = 0; k < count; k++) {
                token.put((int) (group >> 24 - 8 * k) & 255);
            }
        }

        private static int wholeString(Token token, int after) {
            token.after = after;
            return token.asText(STRING, MOST_IN_STRING);
        }
    }

    /** Reads BINARY TOKENS. */
    private static final class Binaries {
        private static final int FLOATS = 48;

        private final Bytes bytes;

        Binaries(Bytes bytes) {
            this.bytes = bytes;
        }

        int readBinary(Token token, int first) {
            switch (first) {
                case 132: return readNumber(token, 4, false);
                case 133: return readNumber(token, 4, true);
                case 134: return readNumber(token, 2, false);
                case 135: return readNumber(token, 2, true);
                case 136: return readNumber(token, 1, false);
                case 137: return readFixed(token);
                case 138: return readFloat(token, false);
                case 139: return readFloat(token, true);
                case 141: return readTruth(token);
                case 142: return readString(token, 1, false);
                case 143: return readString(token, 2, false);
                case 144: return readString(token, 2, true);
                case 145: return readNumbered(token, NUMBERED_LITERAL);
                case 146: return readNumbered(token, NUMBERED_NAME);
                case 149: return readRow(token);
                default: return BAD_BINARY;
            }
        }

        /** Makes the TOKEN go up to there, and tells whether all its bytes have come. */
        private boolean reaches(Token token, int after) {
            token.after = after;
            return after <= bytes.count;
        }

        private int readNumber(Token token, int width, boolean lowestFirst) {
            int from = token.place + 1;
            if (!reaches(token, from + width)) {
                return bytes.lacking(token);
            }
            return token.asWhole(NUMBER, signedAt(from, width, lowestFirst));
        }

        private int readFixed(Token token) {
            int from = token.place + 2;
            int form = bytes.at(from - 1);
            if (form == NONE) {
                return bytes.lacking(token);
            }
            if ((form & 127) >= FLOATS) {
                return token.wrongByte(BAD_BINARY, from - 1);
            }
            int width = widthOf(form);
            if (!reaches(token, from + width)) {
                return bytes.lacking(token);
            }
            return token.asReal(fixedValue(signedAt(from, width, form >= 128), form));
        }

        private int readFloat(Token token, boolean lowestFirst) {
            int from = token.place + 1;
            if (!reaches(token, from + 4)) {
                return bytes.lacking(token);
            }
            int bits = signedAt(from, 4, lowestFirst);
            return isFinite(bits) ? token.asReal(floatValue(bits)) : TOO_GREAT;
        }

        private int readTruth(Token token) {
            int at = token.place + 1;
            int truth = bytes.at(at);
            if (truth > 1) {
                return token.wrongByte(BAD_BINARY, at);
            }
            return readNumbered(token, TRUTH);
        }

        private int readNumbered(Token token, int kind) {
            int at = token.place + 1;
            if (!reaches(token, at + 1)) {
                return bytes.lacking(token);
            }
            return token.asWhole(kind, bytes.at(at));
        }

        private int readString(Token token, int width, boolean lowestFirst) {
            int from = token.place + 1 + width;
            if (!reaches(token, from)) {
                return bytes.lacking(token);
            }
            int to = from + countAt(from - width, width, lowestFirst);
            if (!reaches(token, to)) {
                return bytes.lacking(token);
            }
            for (int i = from; i < to; i++) {
                token.put(bytes.at(i));
            }
            return token.asText(STRING, MOST_IN_STRING);
        }

        private int readRow(Token token) {
            int from = token.place + 4;
            int form = bytes.at(token.place + 1);
            if (form != NONE && (form & 127) > FLOATS) {
                return token.wrongByte(BAD_BINARY, token.place + 1);
            }
            if (!reaches(token, from)) {
                return bytes.lacking(token);
            }
            int count = countAt(from - 2, 2, form >= 128);
            if (!reaches(token, from + count * widthOf(form))) {
                return bytes.lacking(token);
            }
            return count > MOST_IN_ROW ? TOO_MUCH : fillRow(token, from, count, form);
        }

        private int fillRow(Token token, int from, int count, int form) {
            int width = widthOf(form);
            boolean ofFloats = (form & 127) == FLOATS;
            boolean ofReals = ofFloats || (form & 31) != 0;
            token.rowOfReals = ofReals;
            for (int k = 0; k < count; k++) {
                int number = signedAt(from + k * width, width, form >= 128);
                if (ofFloats && !isFinite(number)) {
                    return TOO_GREAT;
                }
                if (ofReals) {
                    token.putInRow(0, ofFloats ? floatValue(number) : fixedValue(number, form));
                } else {
                    token.putInRow(number, 0.0);
                }
            }
            return token.asWhole(ROW, count);
        }

        private static int widthOf(int form) {
            int kind = form & 127;
            return kind >= 32 && kind < FLOATS ? 2 : 4;
        }

        private static double fixedValue(int number, int form) {
            return scaled(number, 2.0, -(form & 31));
        }

        private static boolean isFinite(int bits) {
            return (bits >>> 23 & 255) != 255;
        }

        private static double floatValue(int bits) {
            int exponent = bits >>> 23 & 255;
            int fraction = bits & 8388607;
            double size = exponent == 0
                    ? scaled(fraction, 2.0, -149)
                    : scaled(8388608 + fraction, 2.0, exponent - 150);
            return bits < 0 ? 0.0 - size : size;
        }

        private int countAt(int from, int width, boolean lowestFirst) {
            return signedAt(from, width, lowestFirst) & (width == 1 ? 255 : 65535);
        }

        private int signedAt(int from, int width, boolean lowestFirst) {
            int value = 0;
            for (int k = 0; k < width; k++) {
                value = value << 8 | bytes.at(lowestFirst ? from + width - 1 - k : from + k);
            }
            int spare = 32 - 8 * width;
            return value << spare >> spare;
        }
    }
}
