import java.util.Random;

/**
 * Bytes of many mixtures, the same in each run: what is read may not hang on how the bytes come,
 * and no call may end in an exception that the document does not name.
 */
public final class StreamTest {
    private static final String[] MIXTURES = {
        "0123456789+-.eE# \n",
        "()\\nrtbf01789 \r\n",
        "<>~!5uvz09afAFgs8W- %\n",
        "/ab%{}[]() \n\f\r",
        "\u0084\u0085\u0086\u0087\u0088\u0089\u008a\u008b\u008d\u008e\u008f\u0090\u0091\u0092\u0095\0\1\2\3 \u007f\u0080\u00a0\u00b0\u00ff",
        "{}}{{{ <<>>"
    };

    public static void main(String[] args) {
        Random random = new Random(7);
        Checks.about("read as bytes come");
        for (int run = 0; run < 3000; run++) {
            String bytes = mixed(random, MIXTURES[run % MIXTURES.length], 1 + random.nextInt(60));
            Checks.same("as they come " + run, Tapes.atOnce(bytes), Tapes.byteByByte(bytes));
        }
        for (int run = 0; run < 1000; run++) {
            String bytes = anyBytes(random, 1 + random.nextInt(200));
            Checks.same("any bytes " + run, Tapes.atOnce(bytes), Tapes.byteByByte(bytes));
        }
        Checks.about("At the END, behind all TOKENS, the answer is 20.");
        for (int first = 0; first < 65536; first++) {
            anyTwo(Tapes.bytes(first >> 8, first));
        }
        Checks.done();
    }

    private static String mixed(Random random, String mixture, int length) {
        StringBuilder bytes = new StringBuilder();
        for (int i = 0; i < length; i++) {
            bytes.append(mixture.charAt(random.nextInt(mixture.length())));
        }
        return bytes.toString();
    }

    private static String anyBytes(Random random, int length) {
        StringBuilder bytes = new StringBuilder();
        for (int i = 0; i < length; i++) {
            bytes.append((char) random.nextInt(256));
        }
        return bytes.toString();
    }

    /** Whatever two bytes come, reading ends with END, and goes forth. */
    private static void anyTwo(String bytes) {
        String told = Tapes.atOnce(bytes);
        Checks.same("any two, " + Tapes.shown(bytes), true, told.endsWith("END") && !told.contains("MORE"));
        TokenReader reader = Tapes.fed(bytes);
        reader.end();
        for (int i = 0; i < 4; i++) {
            reader.next();
        }
        Checks.same("at most four answers before 20, " + Tapes.shown(bytes), 20, reader.next());
    }
}
