import java.math.BigInteger;
import java.util.ArrayDeque;
import java.util.ArrayList;
import java.util.List;
import java.util.regex.Matcher;
import java.util.regex.Pattern;

/**
 * A second reading of the document, slow and written otherwise than the program: it only reads what has
 * its END; without one, something is known when all that may follow leaves it as it is.
 */
final class Model {
    /** What one call of NEXT comes to; base is 0 where no NUMBER that is a WORD was read. */
    private record Outcome(int answer, int after, int place, long whole, double real, int base, String text, List<String> row) {
    }

    private static final Pattern WHITE = Pattern.compile("(?:[\0\t\n\f\r ]|%[^\n\f\r]*)*");
    private static final Pattern WORD = Pattern.compile("[^\0\t\n\f\r ()<>\\[\\]{}/%\u0080-\u009f]*");
    private static final Pattern INTEGER = Pattern.compile("[+-]?[0-9]+");
    private static final Pattern BASED = Pattern.compile("([0-9]{1,2})#([0-9A-Za-z]+)");
    private static final Pattern REAL = Pattern.compile("([+-]?)(?=\\.?[0-9])([0-9]*)(?:\\.([0-9]*))?(?:[eE]([+-]?[0-9]{1,3}))?");
    private static final Pattern IN_ROUND = Pattern.compile(
            "\\\\([0-7]{1,3})|(\\\\(?:\r\n|\r|\n))|\\\\([^0-7\r\n])|(\r\n|\r|\n)|(\\()|(\\))|([^\\\\()\r\n])");
    private static final Pattern BASE_16 = Pattern.compile("<([0-9A-Fa-f\0\t\n\f\r ]*)(.?)", Pattern.DOTALL);
    private static final String[] FOLLOWING = {"", "a", " ", "\na", "0", ")", ">", "~>", "/", "<", "(", "\\", "\u0080",
        "\0".repeat(300), ")".repeat(300), "\u00ff".repeat(20) + " a"};

    private final StringBuilder bytes = new StringBuilder();
    private final ArrayDeque<Integer> braces = new ArrayDeque<>();
    private int read = 0;
    private boolean ended = false;
    private int place = 0;
    private int base = 10;
    private Outcome latest = told(0, 0, 0);

    int add(int b) {
        bytes.append((char) (b & 255));
        return bytes.length();
    }

    int end() {
        ended = true;
        return bytes.length() - read;
    }

    void clear() {
        bytes.setLength(0);
        braces.clear();
        read = 0;
        ended = false;
        place = 0;
        base = 10;
        latest = told(0, 0, 0);
    }

    int next() {
        Outcome outcome = ended ? atEnd(bytes.toString()) : whateverFollows();
        if (outcome == null || outcome.answer() == 20) {
            return outcome == null ? 0 : 20;
        }
        read = outcome.after();
        place = outcome.place();
        base = outcome.base() > 0 ? outcome.base() : base;
        countBraces(outcome);
        latest = outcome.answer() > 0 ? outcome : latest;
        return outcome.answer();
    }

    private void countBraces(Outcome outcome) {
        if (outcome.answer() == 9) {
            braces.push(outcome.place());
        }
        if (outcome.answer() == 10) {
            braces.pop();
        }
        boolean isOpenBrace = outcome.answer() == -7 && bytes.charAt(outcome.place()) == '{';
        if (isOpenBrace) {
            braces.clear();
        }
    }

    /** All but next that can be asked for. */
    String state() {
        return "place " + place + " base " + base + " depth " + braces.size() + " whole " + latest.whole() + " real " + latest.real()
                + " text " + Tapes.shown(latest.text()) + " row " + latest.row();
    }

    private Outcome whateverFollows() {
        Outcome first = atEnd(bytes + FOLLOWING[0]);
        for (String following : FOLLOWING) {
            if (!first.equals(atEnd(bytes + following))) {
                return null;
            }
        }
        return first;
    }

    private static Outcome told(int answer, int after, int place) {
        return new Outcome(answer, after, place, 0L, 0.0, 0, "", List.of());
    }

    private static Outcome number(int kind, int after, int place, long value, int base) {
        return new Outcome(kind, after, place, value, 0.0, base, "", List.of());
    }

    private static Outcome real(int after, int place, double value) {
        return new Outcome(2, after, place, 0L, value, 0, "", List.of());
    }

    private static Outcome text(int kind, int after, int place, String text, int most) {
        return text.length() > most ? told(-2, after, place)
                : new Outcome(kind, after, place, text.length(), 0.0, 0, text, List.of());
    }

    private static String match(Pattern pattern, String all, int from) {
        Matcher matcher = pattern.matcher(all).region(from, all.length());
        return matcher.lookingAt() ? matcher.group() : "";
    }

    private Outcome atEnd(String all) {
        int p = read + match(WHITE, all, read).length();
        if (p == all.length()) {
            return braces.isEmpty() ? told(20, p, 0) : told(-7, p, braces.peek());
        }
        String two = all.substring(p, Math.min(p + 2, all.length()));
        switch (all.charAt(p)) {
            case '/': return two.equals("//") ? name(5, all, p, p + 2) : name(4, all, p, p + 1);
            case '[': return told(7, p + 1, p);
            case ']': return told(8, p + 1, p);
            case '{': return told(braces.size() < 20 ? 9 : -2, p + 1, p);
            case '}': return told(braces.isEmpty() ? -4 : 10, p + 1, p);
            case ')': return told(-4, p + 1, p);
            case '>': return two.equals(">>") ? told(12, p + 2, p) : told(-4, p + 1, p);
            case '(': return round(all, p);
            case '<': return two.equals("<<") ? told(11, p + 2, p) : two.equals("<~") ? base85(all, p) : base16(all, p);
            default: return Tapes.isPlain(all.charAt(p)) ? word(match(WORD, all, p), p) : binary(all, p);
        }
    }

    private static Outcome name(int kind, String all, int p, int from) {
        String word = match(WORD, all, from);
        return text(kind, from + word.length(), p, word, 100);
    }

    private static Outcome word(String word, int p) {
        int after = p + word.length();
        if (word.length() > 100) {
            return told(-2, after, p);
        }
        Matcher integer = INTEGER.matcher(word);
        if (integer.matches() && new BigInteger(word).bitLength() < 32) {
            return number(1, after, p, new BigInteger(word).longValue(), 10);
        }
        Matcher based = BASED.matcher(word);
        if (based.matches() && isOfBase(based.group(2), Integer.parseInt(based.group(1)))) {
            BigInteger value = new BigInteger(based.group(2), Integer.parseInt(based.group(1)));
            return value.bitLength() > 32 ? told(-6, after, p)
                    : number(1, after, p, value.intValue(), Integer.parseInt(based.group(1)));
        }
        Matcher real = REAL.matcher(word);
        if (real.matches()) {
            double value = value(real);
            return Double.isInfinite(value) ? told(-6, after, p) : real(after, p, value);
        }
        return text(3, after, p, word, 100);
    }

    private static boolean isOfBase(String digits, int base) {
        return base >= 2 && base <= 36 && digits.chars().allMatch(digit -> Character.digit(digit, base) >= 0);
    }

    private static double value(Matcher real) {
        String behindPoint = real.group(3) == null ? "" : real.group(3);
        int exponent = real.group(4) == null ? 0 : Integer.parseInt(real.group(4));
        double value = 0.0;
        for (char digit : (real.group(2) + behindPoint).toCharArray()) {
            value = value * 10.0 + (digit - '0');
        }
        for (int k = behindPoint.length(); k < exponent; k++) {
            value = value * 10.0;
        }
        for (int k = exponent; k < behindPoint.length(); k++) {
            value = value / 10.0;
        }
        return real.group(1).equals("-") ? 0.0 - value : value;
    }

    private static Outcome round(String all, int p) {
        StringBuilder text = new StringBuilder();
        Matcher part = IN_ROUND.matcher(all);
        int open = 1;
        int i = p + 1;
        while (part.region(i, all.length()).lookingAt()) {
            i = part.end();
            open += part.group(5) != null ? 1 : part.group(6) != null ? -1 : 0;
            if (open == 0) {
                return text(6, i, p, text.toString(), 400);
            }
            text.append(meant(part));
        }
        return told(-7, all.length(), p);
    }

    private static String meant(Matcher part) {
        if (part.group(1) != null) {
            return Tapes.bytes(Integer.parseInt(part.group(1), 8));
        }
        if (part.group(2) != null) {
            return "";
        }
        if (part.group(3) != null) {
            int letter = "nrtbf".indexOf(part.group(3));
            return letter < 0 ? part.group(3) : "\n\r\t\b\f".substring(letter, letter + 1);
        }
        return part.group(4) != null ? "\n" : part.group();
    }

    private static Outcome base16(String all, int p) {
        Matcher whole = BASE_16.matcher(all).region(p, all.length());
        if (!whole.lookingAt() || whole.group(2).isEmpty()) {
            return told(-7, all.length(), p);
        }
        if (!whole.group(2).equals(">")) {
            return told(-3, whole.end(), whole.end() - 1);
        }
        String digits = whole.group(1).replaceAll("[\0\t\n\f\r ]", "");
        StringBuilder text = new StringBuilder();
        for (int i = 0; i < digits.length(); i += 2) {
            text.append((char) Integer.parseInt((digits + "0").substring(i, i + 2), 16));
        }
        return text(6, whole.end(), p, text.toString(), 400);
    }

    private static Outcome base85(String all, int p) {
        StringBuilder text = new StringBuilder();
        StringBuilder group = new StringBuilder();
        for (int i = p + 2; i < all.length(); i++) {
            char c = all.charAt(i);
            if (c == '~') {
                return endOfBase85(all, p, i, text, group.toString());
            } else if (c == 'z' && group.length() == 0) {
                text.append("\0\0\0\0");
            } else if (c >= 33 && c <= 117) {
                group.append(c);
            } else if (!Tapes.isWhite(c)) {
                return told(-3, i + 1, i);
            }
            if (group.length() == 5) {
                if (fourBytes(group.toString()) == null) {
                    return told(-3, i + 1, i);
                }
                text.append(fourBytes(group.toString()));
                group.setLength(0);
            }
        }
        return told(-7, all.length(), p);
    }

    private static Outcome endOfBase85(String all, int p, int at, StringBuilder text, String group) {
        // 117 is the digit 84.
        String last = fourBytes((group + "uuuuu").substring(0, 5));
        if (group.length() == 1 || group.length() > 1 && last == null) {
            return told(-3, at + 1, at);
        }
        if (at + 1 == all.length()) {
            return told(-7, at + 1, p);
        }
        if (all.charAt(at + 1) != '>') {
            return told(-3, at + 2, at + 1);
        }
        return text(6, at + 2, p, text + (group.isEmpty() ? "" : last.substring(0, group.length() - 1)), 400);
    }

    private static String fourBytes(String group) {
        long value = 0L;
        for (char digit : group.toCharArray()) {
            value = value * 85L + (digit - 33);
        }
        return value > 4294967295L ? null : Tapes.ordered(value, 4, false);
    }

    private static Outcome binary(String all, int p) {
        int first = all.charAt(p);
        switch (first) {
            case 132: case 133: return binaryNumber(all, p, 4, first == 133);
            case 134: case 135: return binaryNumber(all, p, 2, first == 135);
            case 136: return binaryNumber(all, p, 1, false);
            case 137: return fixed(all, p);
            case 138: case 139: return floating(all, p, first == 139);
            case 141: case 145: case 146: return oneByte(all, p, first);
            case 142: return binaryString(all, p, 1, false);
            case 143: case 144: return binaryString(all, p, 2, first == 144);
            case 149: return row(all, p);
            default: return told(-5, p + 1, p);
        }
    }

    private static Outcome notWhole(String all, int p) {
        return told(-7, all.length(), p);
    }

    private static long integer(String all, int from, int width, boolean lowestFirst) {
        StringBuilder ordered = new StringBuilder(all.substring(from, from + width));
        if (lowestFirst) {
            ordered.reverse();
        }
        byte[] highestFirst = new byte[width];
        for (int k = 0; k < width; k++) {
            highestFirst[k] = (byte) ordered.charAt(k);
        }
        return new BigInteger(highestFirst).longValue();
    }

    private static double single(String all, int from, boolean lowestFirst) {
        // What is told is 0.0 less 0.0, which has no sign; + 0.0 takes it from -0.0.
        return Float.intBitsToFloat((int) integer(all, from, 4, lowestFirst)) + 0.0;
    }

    private static Outcome binaryNumber(String all, int p, int width, boolean lowestFirst) {
        int after = p + 1 + width;
        return after > all.length() ? notWhole(all, p) : number(1, after, p, integer(all, p + 1, width, lowestFirst), 0);
    }

    private static Outcome fixed(String all, int p) {
        if (p + 2 > all.length()) {
            return notWhole(all, p);
        }
        int r = all.charAt(p + 1) % 128;
        if (r >= 48) {
            return told(-5, p + 2, p + 1);
        }
        int after = p + 2 + (r < 32 ? 4 : 2);
        return after > all.length() ? notWhole(all, p) : real(after, p, fraction(all, p + 2, r, all.charAt(p + 1) >= 128));
    }

    private static double fraction(String all, int from, int r, boolean lowestFirst) {
        return integer(all, from, r < 32 ? 4 : 2, lowestFirst) / Math.pow(2.0, r % 32);
    }

    private static Outcome floating(String all, int p, boolean lowestFirst) {
        if (p + 5 > all.length()) {
            return notWhole(all, p);
        }
        double value = single(all, p + 1, lowestFirst);
        return Double.isFinite(value) ? real(p + 5, p, value) : told(-6, p + 5, p);
    }

    private static Outcome oneByte(String all, int p, int first) {
        if (p + 2 > all.length()) {
            return notWhole(all, p);
        }
        int value = all.charAt(p + 1);
        if (first == 141) {
            return value > 1 ? told(-5, p + 2, p + 1) : number(13, p + 2, p, value, 0);
        }
        return number(first - 131, p + 2, p, value, 0);
    }

    private static Outcome binaryString(String all, int p, int width, boolean lowestFirst) {
        int from = p + 1 + width;
        if (from > all.length()) {
            return notWhole(all, p);
        }
        int after = from + (int) (integer(all, p + 1, width, lowestFirst) & (1 << 8 * width) - 1);
        return after > all.length() ? notWhole(all, p) : text(6, after, p, all.substring(from, after), 400);
    }

    private static Outcome row(String all, int p) {
        int r = p + 1 < all.length() ? all.charAt(p + 1) % 128 : 0;
        if (r > 48) {
            return told(-5, p + 2, p + 1);
        }
        if (p + 4 > all.length()) {
            return notWhole(all, p);
        }
        boolean lowestFirst = all.charAt(p + 1) >= 128;
        int width = r >= 32 && r < 48 ? 2 : 4;
        int count = (int) integer(all, p + 2, 2, lowestFirst) & 65535;
        int after = p + 4 + count * width;
        if (after > all.length()) {
            return notWhole(all, p);
        }
        List<String> row = new ArrayList<>();
        for (int i = p + 4; i < after && count <= 60; i += width) {
            row.add(inRow(all, i, r, lowestFirst));
        }
        return count > 60 ? told(-2, after, p) : row.contains("") ? told(-6, after, p)
                : new Outcome(16, after, p, count, 0.0, 0, "", row);
    }

    /** Whether it is a REAL, the NUMBER, the REAL; nothing where it is infinite. */
    private static String inRow(String all, int at, int r, boolean lowestFirst) {
        if (r == 0 || r == 32) {
            return "0 " + integer(all, at, r == 0 ? 4 : 2, lowestFirst) + " 0.0";
        }
        double value = r == 48 ? single(all, at, lowestFirst) : fraction(all, at, r, lowestFirst);
        return Double.isFinite(value) ? "1 0 " + value : "";
    }
}
