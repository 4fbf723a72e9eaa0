/** Feeds bytes to a TokenReader and writes down what it reads, in a form that tables can hold. */
final class Tapes {
    static final String WHITES = "\0\t\n\f\r ";
    static final String OWNS = "()<>[]{}/%";
    private static final String[] KINDS = {
        "MORE", "NUMBER", "REAL", "NAME", "LITERAL", "INSTANT", "STRING", "[", "]", "{", "}", "<<", ">>",
        "TRUTH", "LITERALNO", "NAMENO", "ROW", "17", "18", "19", "END"
    };

    private Tapes() {
    }

    static boolean isWhite(int b) {
        return WHITES.indexOf(b) >= 0;
    }

    static boolean isPlain(int b) {
        return b > 159 || b < 128 && !isWhite(b) && OWNS.indexOf(b) < 0;
    }

    /** Each character is one byte. */
    static TokenReader fed(String bytes) {
        TokenReader reader = new TokenReader();
        feed(reader, bytes);
        return reader;
    }

    static void feed(TokenReader reader, String bytes) {
        for (int i = 0; i < bytes.length(); i++) {
            reader.add((byte) bytes.charAt(i));
        }
    }

    static String bytes(int... values) {
        StringBuilder text = new StringBuilder();
        for (int value : values) {
            text.append((char) (value & 255));
        }
        return text.toString();
    }

    /** The lowest bytes of a number, as many as the width tells. */
    static String ordered(long number, int width, boolean lowestFirst) {
        StringBuilder text = new StringBuilder();
        for (int k = 0; k < width; k++) {
            text.append((char) (number >> 8 * k & 255));
        }
        return lowestFirst ? text.toString() : text.reverse().toString();
    }

    /** All that is read of the bytes and the END behind them, told at once and byte by byte. */
    static void reads(String bytes, String want) {
        Checks.same("at once, " + shown(bytes), want, atOnce(bytes));
        Checks.same("byte by byte, " + shown(bytes), want, byteByByte(bytes));
    }

    /** All that is read while no END was told. */
    static void readsOpen(String bytes, String want) {
        Checks.same("without END, " + shown(bytes), want, rest(fed(bytes)));
    }

    /** The bytes must end a TOKEN: none of those before the last tells it, and the last one does. */
    static void endsWithLast(String bytes, String want) {
        TokenReader reader = new TokenReader();
        for (int i = 0; i < bytes.length(); i++) {
            Checks.same("next before byte " + i + " of " + shown(bytes), 0, reader.next());
            reader.add((byte) bytes.charAt(i));
        }
        Checks.same("with the last byte, " + shown(bytes), want, rest(reader));
    }

    /** What the first call of NEXT tells, with the END behind the bytes. */
    static String first(String bytes) {
        TokenReader reader = fed(bytes);
        reader.end();
        return one(reader, reader.next());
    }

    static String atOnce(String bytes) {
        TokenReader reader = fed(bytes);
        reader.end();
        return rest(reader);
    }

    static String byteByByte(String bytes) {
        TokenReader reader = new TokenReader();
        StringBuilder told = new StringBuilder();
        for (int i = 0; i < bytes.length(); i++) {
            reader.add((byte) bytes.charAt(i));
            String more = rest(reader);
            told.append(more, 0, more.length() - "MORE".length());
        }
        reader.end();
        return told.append(rest(reader)).toString();
    }

    /** Calls next until nothing more is read. */
    static String rest(TokenReader reader) {
        StringBuilder told = new StringBuilder();
        int answer = reader.next();
        for (int k = 0; k < 5000 && answer != 0 && answer != 20; k++) {
            told.append(one(reader, answer)).append(' ');
            answer = reader.next();
        }
        return told.append(KINDS[answer]).toString();
    }

    private static String one(TokenReader reader, int answer) {
        if (answer < 0) {
            return "WRONG" + (-1 - answer) + "@" + reader.place();
        }
        if (answer == 0 || answer == 20) {
            return KINDS[answer];
        }
        return KINDS[answer] + value(reader, answer) + "@" + reader.place();
    }

    private static String value(TokenReader reader, int kind) {
        switch (kind) {
            case 1: case 13: case 14: case 15: return "(" + reader.whole() + ")";
            case 2: return "(" + reader.real() + ")";
            case 3: case 4: case 5: case 6: return "(" + shown(text(reader)) + ")";
            case 16: return "(" + row(reader) + ")";
            default: return "";
        }
    }

    static String text(TokenReader reader) {
        StringBuilder text = new StringBuilder();
        for (int i = 0; i < reader.whole(); i++) {
            text.append((char) reader.sign(i));
        }
        return text.toString();
    }

    private static String row(TokenReader reader) {
        StringBuilder row = new StringBuilder();
        for (int i = 0; i < reader.whole(); i++) {
            row.append(i == 0 ? "" : ",");
            if (reader.binary(i, 0) == 1) {
                row.append(reader.binaryReal(i));
            } else {
                row.append(reader.binary(i, 1));
            }
        }
        return row.toString();
    }

    /** Bytes as tables write them: those that can't be seen as $ and two digits of base 16. */
    static String shown(String bytes) {
        StringBuilder text = new StringBuilder();
        for (int i = 0; i < bytes.length(); i++) {
            char c = bytes.charAt(i);
            if (c > 32 && c < 127) {
                text.append(c);
            } else {
                text.append('$').append(Integer.toHexString(256 + c).substring(1));
            }
        }
        return text.toString();
    }

    static String string(String bytes) {
        return "STRING(" + shown(bytes) + ")";
    }
}
