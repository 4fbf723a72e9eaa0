import java.util.ArrayList;
import java.util.List;
import java.util.Random;

/**
 * Many runs of calls, the same ones each time, on the program and on a second reading of the document
 * (support/Model.java): each answer must be the same. An object is one run.
 */
public final class ModelTest {
    private static final int MOST_CALLS = 512;
    // The dearest step makes some 200 calls, and must still fit in.
    private static final int LAST_STEP = 300;
    private static final int LONGEST = 140;
    private static final String DIGITS = "0123456789abcdefghijklmnopqrstuvwxyzABCDEFGHIJKLMNOPQRSTUVWXYZ";
    private static final String[] GREAT = {"2147483647", "2147483648", "-2147483648", "-2147483649", "16#7fffffff", "16#80000000",
        "16#FFFFFFFF", "16#100000000", "36#1z141z3", "36#1z141z4", "1e308", "1e309", "17.9e307", "18e307", "-1e-323", "1e-999", "0e999"};
    private static final String[] MARKS = {"[", "]", "{", "{", "}", "{}", "{{}}", "{{{}}", "}}", "<<", ">>", ">", ")", "<", ">>>", "(",
        "<~", "{".repeat(19), "{".repeat(21)};
    private static final String[] ESCAPES = {"\\", "\\\r", "\\\n", "\\\r\n", "\\\n\r", "\\(", "\\)", "\\\\", "\\n", "\\r", "\\t", "\\b",
        "\\f", "\\7", "\\101", "\\1234", "\\0018", "\\777", "\\8", "\\x", "\r", "\n", "\r\n", "\n\r", "()", "(", ")", "a", "%", "<", "\u0084"};
    private static final String[] GROUPS = {"z", "!!!!!", "s8W-!", "s8W-\"", "s8W,u", "uuuuu", "9jqo^", "!!z", "87cUR", " ", "\n", "%", "v"};
    private static final String[] LAST_GROUPS = {"", "", "!", "s8", "s9", "s8W", "s8X", "s8W-", "s8W,", "s8W.", "5s", "uu", "z", "9 j"};
    private static final String[] BASE_85_ENDS = {"~>", "~>", "~>", "~ >", "~~>", "~", ">", "~)"};
    private static final int[] FORMS = {0, 1, 31, 32, 33, 47, 48, 49, 128, 129, 159, 160, 161, 175, 176, 177};
    private static final int[] EDGES = {0, 1, 127, 128, 255};

    private static final Random RANDOM = new Random(9);

    private final TokenReader reader = new TokenReader();
    private final Model model = new Model();
    private final StringBuilder tape = new StringBuilder();
    private int calls = 0;

    public static void main(String[] args) {
        Checks.about("NEXT goes over what is WHITE and reads a TOKEN: its kind is the answer, its place the number of its first byte.");
        for (int run = 0; run < 8000; run++) {
            ModelTest one = new ModelTest();
            one.atOnce(mixed(LONGEST), run % 4 > 0);
            one.mayEnd();
        }
        Checks.about("If it is not known yet, without more bytes, what it is or where it ends, the answer is 0, and nothing is read");
        for (int run = 0; run < 8000; run++) {
            ModelTest one = new ModelTest();
            one.asTheyCome(mixed(LONGEST));
            one.mayEnd();
        }
        Checks.about("`void clear()`: All goes, as at first.");
        for (int run = 0; run < 4000; run++) {
            ModelTest one = new ModelTest();
            one.atOnce(mixed(LONGEST / 4), run % 2 > 0);
            one.clear();
            one.atOnce(mixed(LONGEST / 2), run % 4 > 0);
            one.mayEnd();
        }
        Checks.done();
    }

    private void mayEnd() {
        same("not more calls than are promised", true, calls <= MOST_CALLS);
    }

    private void atOnce(String bytes, boolean ended) {
        for (char b : bytes.toCharArray()) {
            add(b);
        }
        if (ended) {
            end();
        }
        readOn();
    }

    private void asTheyCome(String bytes) {
        for (char b : bytes.toCharArray()) {
            if (calls < LAST_STEP) {
                add(b);
                readOn();
            }
        }
        if (calls < LAST_STEP) {
            end();
            readOn();
        }
    }

    private void add(char b) {
        tape.append(b);
        calls++;
        same("add", model.add(b), reader.add((byte) b));
    }

    private void end() {
        calls++;
        same("end", model.end(), reader.end());
    }

    private void clear() {
        tape.setLength(0);
        calls++;
        model.clear();
        reader.clear();
        same("state behind clear", model.state(), state());
    }

    private void readOn() {
        int answer = -1;
        while (answer != 0 && answer != 20 && calls < LAST_STEP) {
            calls++;
            answer = reader.next();
            same("next", model.next(), answer);
            // Not behind each 0, or a run would end after some thirty bytes.
            if (answer != 0 || tape.length() % 16 == 0) {
                same("state behind " + answer, model.state(), state());
            }
        }
    }

    private void same(String what, Object want, Object got) {
        Checks.same(what + " of " + Tapes.shown(tape.toString()), want, got);
    }

    private String state() {
        calls += 5;
        return "place " + reader.place() + " base " + reader.base() + " depth " + reader.depth() + " whole " + reader.whole()
                + " real " + reader.real() + " text " + Tapes.shown(text()) + " row " + row();
    }

    private String text() {
        StringBuilder text = new StringBuilder();
        int sign = reader.sign(0);
        calls++;
        while (sign != TokenReader.NONE && text.length() < MOST_CALLS) {
            text.append((char) sign);
            sign = reader.sign(text.length());
            calls++;
        }
        return text.toString();
    }

    private List<String> row() {
        List<String> row = new ArrayList<>();
        try {
            for (int i = 0; i < MOST_CALLS; i++) {
                calls++;
                row.add(reader.binary(i, 0) + " " + reader.binary(i, 1) + " " + reader.binaryReal(i));
                calls += 2;
            }
        } catch (IndexOutOfBoundsException behindTheLast) {
            return row;
        }
        return row;
    }

    private static String mixed(int longest) {
        StringBuilder bytes = new StringBuilder();
        int pieces = 1 + RANDOM.nextInt(12);
        for (int i = 0; i < pieces; i++) {
            String piece = piece(RANDOM.nextInt(14));
            boolean isCut = RANDOM.nextInt(20) == 0;
            bytes.append(isCut ? piece.substring(0, RANDOM.nextInt(piece.length() + 1)) : piece);
        }
        return bytes.substring(0, Math.min(longest, bytes.length()));
    }

    private static String piece(int sort) {
        switch (sort) {
            case 0: case 1: return number() + white();
            case 2: return one(GREAT) + white();
            case 3: return name(RANDOM.nextInt(6)) + white();
            case 4: return "/".repeat(1 + RANDOM.nextInt(3)) + name(RANDOM.nextInt(4));
            case 5: return "(" + several(ESCAPES, RANDOM.nextInt(8)) + ")";
            case 6: return "<" + several("0123456789abcdefABCDEF \n%gG".split(""), RANDOM.nextInt(6)) + ">";
            case 7: return "<~" + several(GROUPS, RANDOM.nextInt(4)) + lastGroup() + one(BASE_85_ENDS);
            case 8: return one(MARKS);
            case 9: return white();
            case 10: return RANDOM.nextInt(8) == 0 ? "/".repeat(RANDOM.nextInt(3)) + "a".repeat(98 + RANDOM.nextInt(5)) + " " : one(MARKS);
            default: return binary(128 + RANDOM.nextInt(32));
        }
    }

    private static String one(String[] of) {
        return of[RANDOM.nextInt(of.length)];
    }

    private static String several(String[] of, int count) {
        StringBuilder all = new StringBuilder();
        for (int i = 0; i < count; i++) {
            all.append(one(of));
        }
        return all.toString();
    }

    private static String lastGroup() {
        if (RANDOM.nextBoolean()) {
            return one(LAST_GROUPS);
        }
        StringBuilder group = new StringBuilder();
        for (int digits = RANDOM.nextInt(5); digits > 0; digits--) {
            group.append((char) (33 + RANDOM.nextInt(85)));
        }
        return group.toString();
    }

    private static String number() {
        String sign = one(new String[] {"", "", "+", "-"});
        switch (RANDOM.nextInt(3)) {
            case 0: return sign + digits(10, RANDOM.nextInt(12));
            case 1: return RANDOM.nextInt(40) + "#" + digits(1 + RANDOM.nextInt(DIGITS.length()), RANDOM.nextInt(8));
            default: return sign + digits(10, RANDOM.nextInt(5)) + one(new String[] {"", ".", "."}) + digits(10, RANDOM.nextInt(5))
                    + one(new String[] {"", "e", "E-", "e+"}) + digits(10, RANDOM.nextInt(5));
        }
    }

    private static String digits(int below, int count) {
        return several(DIGITS.substring(0, below).split(""), count);
    }

    private static String name(int length) {
        StringBuilder name = new StringBuilder();
        for (int i = 0; i < length; i++) {
            char b = (char) RANDOM.nextInt(256);
            name.append(Tapes.isPlain(b) ? b : 'q');
        }
        return name.toString();
    }

    private static String white() {
        if (RANDOM.nextInt(5) > 0) {
            return "" + Tapes.WHITES.charAt(RANDOM.nextInt(6));
        }
        return "%" + several(ESCAPES, 2) + one(new String[] {"\n", "\r", "\f", ""});
    }

    private static String binary(int first) {
        int form = FORMS[RANDOM.nextInt(FORMS.length)];
        switch (first) {
            case 132: case 133: case 138: case 139: return Tapes.bytes(first) + edges(4);
            case 137: return Tapes.bytes(first, form) + edges(form % 128 < 32 ? 4 : 2);
            case 142: return counted(Tapes.bytes(first), RANDOM.nextInt(6), 1, 1, false);
            case 143: case 144: return counted(Tapes.bytes(first), RANDOM.nextInt(6), 2, 1, first == 144);
            case 130: case 140: case 147: case 148: case 149: return row(form);
            default: return Tapes.bytes(first) + edges(2);
        }
    }

    private static String row(int form) {
        int count = RANDOM.nextInt(10) == 0 ? 57 + RANDOM.nextInt(5) : RANDOM.nextInt(5);
        return counted(Tapes.bytes(149, form), count, 2, form % 128 >= 32 && form % 128 < 48 ? 2 : 4, form >= 128);
    }

    private static String counted(String head, int count, int width, int each, boolean lowestFirst) {
        return head + Tapes.ordered(count, width, lowestFirst) + edges(count * each);
    }

    private static String edges(int count) {
        StringBuilder bytes = new StringBuilder();
        for (int i = 0; i < count; i++) {
            bytes.append((char) (RANDOM.nextInt(3) == 0 ? RANDOM.nextInt(256) : EDGES[RANDOM.nextInt(EDGES.length)]));
        }
        return bytes.toString();
    }
}
