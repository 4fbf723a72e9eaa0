import java.util.Random;

/** The Terms of BINARY TOKENS. */
public final class BinaryTest {
    private static final long[] EDGES = {0, 1, 2, 127, 128, 129, 255, 256, 257, 32767, 32768, 32769, 65535, 65536,
        8388607, 8388608, 16777215, 16777216, 16909060, 2147483647L, 2147483648L, 2147483649L, 4294967294L, 4294967295L};

    public static void main(String[] args) {
        firstBytes();
        whereTokensMayBegin();
        numbersOfFour();
        numbersOfTwo();
        numbersOfOne();
        numbersAreNoWords();
        fixedOfFour();
        fixedOfTwo();
        fixedLowestFirst();
        otherForms();
        floats();
        floatsWithSign();
        tinyFloats();
        floatsAsBinary();
        infiniteFloats();
        truths();
        shortStrings();
        longerStrings();
        numberedLiterals();
        numberedNames();
        rowForms();
        rowsOfFloats();
        otherRowForms();
        rowCounts();
        rowOrders();
        rowSorts();
        rowsOfSixty();
        infiniteInRows();
        otherBytes();
        Checks.done();
    }

    private static void reads(String want, int... bytes) {
        Tapes.reads(Tapes.bytes(bytes), want);
    }

    private static void firstBytes() {
        Checks.about("BINARY TOKENS begin with a byte 128 .. 159");
        reads("NAME($7f)@0 END", 127);
        reads("WRONG4@0 END", 128);
        reads("WRONG4@0 END", 159);
        reads("NAME($a0)@0 END", 160);
        reads("NAME($7f$a0)@0 WRONG4@2 NAME($a0)@3 END", 127, 160, 128, 160);
    }

    private static void whereTokensMayBegin() {
        Checks.about("(where a TOKEN may begin)");
        reads("NAME(a)@0 NUMBER(7)@1 NAME(b)@3 END", 'a', 136, 7, 'b');
        reads("LITERAL()@0 NUMBER(7)@1 END", '/', 136, 7);
        reads("INSTANT()@0 NUMBER(7)@2 END", '/', '/', 136, 7);
        reads("[@0 NUMBER(7)@1 ]@3 END", '[', 136, 7, ']');
        reads("STRING($88$07)@0 END", '(', 136, 7, ')');
        reads("STRING($88)@0 END", '(', '\\', 136, ')');
        reads("NUMBER(7)@3 END", '%', 136, 10, 136, 7);
        reads("WRONG2@1 WRONG3@2 END", '<', 136, '>');
        reads("WRONG2@2 NAME(~)@3 WRONG3@4 END", '<', '~', 136, '~', '>');
        reads("STRING($88$80)@0 NUMBER(7)@4 END", 142, 2, 136, 128, 136, 7);
        reads("NUMBER(-120)@0 NUMBER(7)@2 END", 136, 136, 136, 7);
        reads("NUMBER(32)@2 NAME(a)@4 END", 32, 10, 136, 32, 'a');
    }

    /** Each edge, told in both orders by the two first bytes. */
    private static void numbers(int highestFirst, int width) {
        for (long edge : EDGES) {
            long value = width == 4 ? (int) edge : (short) edge;
            Tapes.reads(Tapes.bytes(highestFirst) + Tapes.ordered(edge, width, false) + "x",
                    "NUMBER(" + value + ")@0 NAME(x)@" + (width + 1) + " END");
            Tapes.reads(Tapes.bytes(highestFirst + 1) + Tapes.ordered(edge, width, true) + "x",
                    "NUMBER(" + value + ")@0 NAME(x)@" + (width + 1) + " END");
        }
    }

    private static void numbersOfFour() {
        Checks.about("132, 133 a NUMBER of four bytes (the highest first; the lowest first)");
        numbers(132, 4);
        reads("NUMBER(16909060)@0 END", 132, 1, 2, 3, 4);
        reads("NUMBER(67305985)@0 END", 133, 1, 2, 3, 4);
        reads("NUMBER(-2147483648)@0 NUMBER(2147483647)@5 END", 132, 128, 0, 0, 0, 132, 127, 255, 255, 255);
        reads("NUMBER(-2147483648)@0 NUMBER(2147483647)@5 END", 133, 0, 0, 0, 128, 133, 255, 255, 255, 127);
        Tapes.endsWithLast(Tapes.bytes(132, 1, 2, 3, 4), "NUMBER(16909060)@0 MORE");
        Tapes.endsWithLast(Tapes.bytes(133, 1, 2, 3, 4), "NUMBER(67305985)@0 MORE");
    }

    private static void numbersOfTwo() {
        Checks.about("134, 135 of two");
        numbers(134, 2);
        reads("NUMBER(258)@0 NUMBER(513)@3 END", 134, 1, 2, 135, 1, 2);
        reads("NUMBER(-32768)@0 NUMBER(32767)@3 END", 134, 128, 0, 134, 127, 255);
        reads("NUMBER(-32768)@0 NUMBER(32767)@3 END", 135, 0, 128, 135, 255, 127);
        Tapes.endsWithLast(Tapes.bytes(134, 1, 2), "NUMBER(258)@0 MORE");
        Tapes.endsWithLast(Tapes.bytes(135, 1, 2), "NUMBER(513)@0 MORE");
    }

    private static void numbersOfOne() {
        Checks.about("136 of one (all with signs)");
        for (int b = 0; b < 256; b++) {
            reads("NUMBER(" + (byte) b + ")@0 NAME(x)@2 END", 136, b, 'x');
        }
        Tapes.endsWithLast(Tapes.bytes(136, 127), "NUMBER(127)@0 MORE");
    }

    private static void numbersAreNoWords() {
        Checks.about("132, 133 a NUMBER of four bytes");
        TokenReader reader = Tapes.fed("16#f " + Tapes.bytes(136, 5, 132, 0, 0, 0, 9));
        int[] values = {15, 5, 9};
        for (int value : values) {
            Checks.same("a NUMBER", 1, reader.next());
            Checks.same("its value", (long) value, reader.whole());
            Checks.same("BASE is that of the WORD", 16, reader.base());
        }
    }

    /** The edges as numbers of that width, over 2 to the scale, in both orders. */
    private static void fixed(int scale, int width) {
        for (long edge : EDGES) {
            double value = (width == 4 ? (int) edge : (short) edge) / (double) (1L << scale);
            String due = "REAL(" + value + ")@0 NAME(x)@" + (width + 2) + " END";
            int form = width == 4 ? scale : 32 + scale;
            Tapes.reads(Tapes.bytes(137, form) + Tapes.ordered(edge, width, false) + "x", due);
            Tapes.reads(Tapes.bytes(137, 128 + form) + Tapes.ordered(edge, width, true) + "x", due);
        }
    }

    private static void fixedOfFour() {
        Checks.about("below 32: of four bytes (with signs, too), over 2 to that");
        for (int scale = 0; scale < 32; scale++) {
            fixed(scale, 4);
        }
        reads("REAL(1.690906E7)@0 END", 137, 0, 1, 2, 3, 4);
        reads("REAL(1.5)@0 REAL(-1.5)@6 END", 137, 1, 0, 0, 0, 3, 137, 1, 255, 255, 255, 253);
        reads("REAL(" + 1.0 / 2147483648.0 + ")@0 REAL(-1.0)@6 END", 137, 31, 0, 0, 0, 1, 137, 31, 128, 0, 0, 0);
        Tapes.endsWithLast(Tapes.bytes(137, 31, 0, 0, 0, 0), "REAL(0.0)@0 MORE");
    }

    private static void fixedOfTwo() {
        Checks.about("32 .. 47: of two, over 2 to that less 32");
        for (int scale = 0; scale < 16; scale++) {
            fixed(scale, 2);
        }
        reads("REAL(258.0)@0 REAL(-1.0)@4 END", 137, 32, 1, 2, 137, 32, 255, 255);
        reads("REAL(" + 1.0 / 32768.0 + ")@0 REAL(-1.0)@4 END", 137, 47, 0, 1, 137, 47, 128, 0);
        Tapes.endsWithLast(Tapes.bytes(137, 32, 0, 1), "REAL(1.0)@0 MORE");
        Tapes.endsWithLast(Tapes.bytes(137, 47, 0, 0), "REAL(0.0)@0 MORE");
    }

    private static void fixedLowestFirst() {
        Checks.about("137: a byte r, then a REAL: r or r - 128 (the lowest byte first)");
        reads("REAL(6.7305985E7)@0 END", 137, 128, 1, 2, 3, 4);
        reads("REAL(0.25)@0 END", 137, 130, 1, 0, 0, 0);
        reads("REAL(1.6777216E7)@0 END", 137, 0, 1, 0, 0, 0);
        reads("REAL(513.0)@0 END", 137, 160, 1, 2);
        reads("REAL(0.5)@0 REAL(0.0)@4 END", 137, 175, 0, 64, 137, 33, 0, 0);
        Tapes.endsWithLast(Tapes.bytes(137, 159, 0, 0, 0, 128), "REAL(-1.0)@0 MORE");
        Tapes.endsWithLast(Tapes.bytes(137, 175, 0, 128), "REAL(-1.0)@0 MORE");
    }

    private static void otherForms() {
        Checks.about("other r are WRONG (4)");
        for (int form = 0; form < 256; form++) {
            boolean wrong = (form & 127) >= 48;
            if (wrong) {
                Tapes.endsWithLast(Tapes.bytes(' ', 137, form), "WRONG4@2 MORE");
                reads("WRONG4@2 NUMBER(7)@3 END", ' ', 137, form, '7');
            } else {
                Tapes.readsOpen(Tapes.bytes(' ', 137, form), "MORE");
            }
        }
    }

    private static void floatOf(int bits) {
        double value = 0.0 + Float.intBitsToFloat(bits);
        Tapes.reads(Tapes.bytes(138) + Tapes.ordered(bits, 4, false) + "x", "REAL(" + value + ")@0 NAME(x)@5 END");
        Tapes.reads(Tapes.bytes(139) + Tapes.ordered(bits, 4, true) + "x", "REAL(" + value + ")@0 NAME(x)@5 END");
    }

    private static void floats() {
        Checks.about("138, 139: a REAL of four bytes");
        float[] values = {1.0f, -1.0f, 0.1f, -123.456f, Float.MAX_VALUE, -Float.MAX_VALUE, Float.MIN_NORMAL,
            -Float.MIN_NORMAL, 16777215f, 8388608f, 0.0f, 2.0f};
        for (float value : values) {
            floatOf(Float.floatToIntBits(value));
        }
        Tapes.endsWithLast(Tapes.bytes(138, 63, 128, 0, 0), "REAL(1.0)@0 MORE");
        Tapes.endsWithLast(Tapes.bytes(139, 0, 0, 128, 63), "REAL(1.0)@0 MORE");
    }

    private static void floatsWithSign() {
        Checks.about("a sign (with it 0.0 less what follows), 8 bits e, 23 bits f");
        String[] zeros = {Tapes.bytes(138, 128, 0, 0, 0), Tapes.bytes(139, 0, 0, 0, 128), Tapes.bytes(138, 0, 0, 0, 0)};
        for (String zero : zeros) {
            TokenReader reader = Tapes.fed(zero);
            Checks.same("a REAL", 2, reader.next());
            Checks.same("0.0 less 0.0 has no sign", 0L, Double.doubleToRawLongBits(reader.real()));
        }
        reads("REAL(-1.0)@0 REAL(1.0)@5 END", 138, 191, 128, 0, 0, 138, 63, 128, 0, 0);
        reads("REAL(-2.0)@0 REAL(-2.0)@5 END", 138, 192, 0, 0, 0, 139, 0, 0, 0, 192);
    }

    private static void tinyFloats() {
        Checks.about("f 2^-149 for e = 0");
        int[] fractions = {0, 1, 2, 3, 4194303, 4194304, 8388606, 8388607};
        for (int fraction : fractions) {
            floatOf(fraction);
            floatOf(fraction | 1 << 31);
            floatOf(fraction | 1 << 23);
            floatOf(fraction | 257 << 23);
        }
        reads("REAL(1.401298464324817E-45)@0 END", 138, 0, 0, 0, 1);
        reads("REAL(1.1754943508222875E-38)@0 END", 138, 0, 128, 0, 0);
    }

    private static void floatsAsBinary() {
        Checks.about("(2^23 + f) 2^(e - 150)");
        int[] fractions = {0, 1, 4194304, 8388607};
        for (int exponent = 1; exponent < 255; exponent++) {
            for (int fraction : fractions) {
                floatOf(fraction | exponent << 23);
                floatOf(fraction | exponent << 23 | 1 << 31);
            }
        }
        Random random = new Random(8);
        for (int run = 0; run < 500; run++) {
            int bits = random.nextInt();
            if ((bits >>> 23 & 255) != 255) {
                floatOf(bits);
            }
        }
    }

    private static void infiniteFloats() {
        Checks.about("e = 255 is WRONG (5)");
        int[] fractions = {0, 1, 4194304, 8388607};
        for (int fraction : fractions) {
            for (int sign = 0; sign < 2; sign++) {
                int bits = fraction | 255 << 23 | sign << 31;
                Tapes.reads(" " + Tapes.bytes(138) + Tapes.ordered(bits, 4, false) + "1", "WRONG5@1 NUMBER(1)@6 END");
                Tapes.reads(" " + Tapes.bytes(139) + Tapes.ordered(bits, 4, true) + "1", "WRONG5@1 NUMBER(1)@6 END");
                floatOf(fraction | 254 << 23 | sign << 31);
            }
        }
        Tapes.endsWithLast(Tapes.bytes(138, 127, 128, 0, 0), "WRONG5@0 MORE");
        Tapes.endsWithLast(Tapes.bytes(139, 0, 0, 128, 127), "WRONG5@0 MORE");
    }

    private static void truths() {
        Checks.about("141: kind 13 TRUTH, a byte 0 or 1 (others are WRONG (4))");
        for (int b = 0; b < 256; b++) {
            reads(b < 2 ? "TRUTH(" + b + ")@1 NUMBER(5)@3 END" : "WRONG4@2 NUMBER(5)@3 END", ' ', 141, b, '5');
        }
        Tapes.endsWithLast(Tapes.bytes(141, 0), "TRUTH(0)@0 MORE");
        Tapes.endsWithLast(Tapes.bytes(141, 1), "TRUTH(1)@0 MORE");
        Tapes.endsWithLast(Tapes.bytes(141, 2), "WRONG4@1 MORE");
    }

    private static void shortStrings() {
        Checks.about("142: a STRING with its length in a byte");
        for (int length = 0; length < 256; length++) {
            Tapes.reads(Tapes.bytes(142, length) + "y".repeat(length) + "x",
                    Tapes.string("y".repeat(length)) + "@0 NAME(x)@" + (2 + length) + " END");
        }
        reads("STRING(a)b$ff)@0 NAME(c)@6 END", 142, 4, 'a', ')', 'b', 255, 'c');
        reads("STRING($0d\\$0a%)@0 END", 142, 4, 13, '\\', 10, '%');
        Tapes.endsWithLast(Tapes.bytes(142, 0), "STRING()@0 MORE");
        Tapes.endsWithLast(Tapes.bytes(142, 2, 32, 32), "STRING($20$20)@0 MORE");
    }

    private static void longerStrings() {
        Checks.about("143, 144 in two (the highest, the lowest first)");
        int[] lengths = {0, 1, 2, 127, 128, 255, 256, 257, 399, 400};
        for (int length : lengths) {
            String due = Tapes.string("y".repeat(length)) + "@0 NAME(x)@" + (3 + length) + " END";
            Tapes.reads(Tapes.bytes(143) + Tapes.ordered(length, 2, false) + "y".repeat(length) + "x", due);
            Tapes.reads(Tapes.bytes(144) + Tapes.ordered(length, 2, true) + "y".repeat(length) + "x", due);
        }
        Tapes.readsOpen(Tapes.bytes(143, 128, 0) + "y".repeat(300), "MORE");
        Tapes.readsOpen(Tapes.bytes(144, 0, 128) + "y".repeat(300), "MORE");
        Tapes.endsWithLast(Tapes.bytes(143, 0, 2, 'a', 'b'), "STRING(ab)@0 MORE");
        Tapes.endsWithLast(Tapes.bytes(144, 2, 0, 'a', 'b'), "STRING(ab)@0 MORE");
        Tapes.endsWithLast(Tapes.bytes(143, 0, 0), "STRING()@0 MORE");
        Tapes.endsWithLast(Tapes.bytes(144, 0, 0), "STRING()@0 MORE");
    }

    private static void numberedLiterals() {
        Checks.about("145, 146: kinds 14 (literal), 15: the name with the number in a byte");
        for (int b = 0; b < 256; b++) {
            reads("LITERALNO(" + b + ")@0 NAME(x)@2 END", 145, b, 'x');
        }
        Tapes.endsWithLast(Tapes.bytes(145, 255), "LITERALNO(255)@0 MORE");
    }

    private static void numberedNames() {
        Checks.about("15: the name with the number in a byte");
        for (int b = 0; b < 256; b++) {
            reads("NAMENO(" + b + ")@0 NAME(x)@2 END", 146, b, 'x');
        }
        Tapes.endsWithLast(Tapes.bytes(146, 128), "NAMENO(128)@0 MORE");
    }

    private static String told(int form, long number) {
        int sort = form & 127;
        long value = sort < 32 ? (int) number : (short) number;
        return (form & 31) == 0 ? "" + value : "" + value / (double) (1L << (form & 31));
    }

    /** A ROW of all edges, of any form but those of floats. */
    private static void rowOfEdges(int form) {
        int width = (form & 127) < 32 ? 4 : 2;
        StringBuilder numbers = new StringBuilder();
        StringBuilder due = new StringBuilder();
        for (long edge : EDGES) {
            numbers.append(Tapes.ordered(edge, width, form >= 128));
            due.append(due.length() == 0 ? "" : ",").append(told(form, edge));
        }
        Tapes.reads(Tapes.bytes(149, form) + Tapes.ordered(EDGES.length, 2, form >= 128) + numbers + "x",
                "ROW(" + due + ")@0 NAME(x)@" + (4 + width * EDGES.length) + " END");
    }

    private static void rowForms() {
        Checks.about("149: kind 16 ROW: r as for 137");
        for (int form = 0; form < 256; form++) {
            if ((form & 127) < 48) {
                rowOfEdges(form);
            }
        }
        reads("ROW(16909060,-1)@0 END", 149, 0, 0, 2, 1, 2, 3, 4, 255, 255, 255, 255);
        reads("ROW(67305985)@0 NAME(a)@8 END", 149, 128, 1, 0, 1, 2, 3, 4, 'a');
        reads("ROW(0.5,-0.5,0.0)@0 END", 149, 33, 0, 3, 0, 1, 255, 255, 0, 0);
        Tapes.endsWithLast(Tapes.bytes(149, 32, 0, 2, 1, 2, 255, 254), "ROW(258,-2)@0 MORE");
        Tapes.endsWithLast(Tapes.bytes(149, 1, 0, 1, 0, 0, 0, 3), "ROW(1.5)@0 MORE");
    }

    private static void rowsOfFloats() {
        Checks.about("(or 48: 138's four bytes, 176: 139's)");
        float[] values = {1.0f, -2.0f, Float.MAX_VALUE, Float.MIN_VALUE, -Float.MIN_NORMAL, 0.0f, 0.1f};
        StringBuilder highest = new StringBuilder();
        StringBuilder lowest = new StringBuilder();
        StringBuilder due = new StringBuilder();
        for (float value : values) {
            highest.append(Tapes.ordered(Float.floatToIntBits(value), 4, false));
            lowest.append(Tapes.ordered(Float.floatToIntBits(value), 4, true));
            due.append(due.length() == 0 ? "" : ",").append((double) value);
        }
        Tapes.reads(Tapes.bytes(149, 48, 0, values.length) + highest + "x", "ROW(" + due + ")@0 NAME(x)@32 END");
        Tapes.reads(Tapes.bytes(149, 176, values.length, 0) + lowest + "x", "ROW(" + due + ")@0 NAME(x)@32 END");
        reads("ROW(1.0,-2.0)@0 END", 149, 48, 0, 2, 63, 128, 0, 0, 192, 0, 0, 0);
        reads("ROW(1.0,-2.0)@0 END", 149, 176, 2, 0, 0, 0, 128, 63, 0, 0, 0, 192);
        reads("ROW(0.0)@0 END", 149, 48, 0, 1, 128, 0, 0, 0);
        Tapes.endsWithLast(Tapes.bytes(149, 48, 0, 1, 63, 128, 0, 0), "ROW(1.0)@0 MORE");
        Tapes.endsWithLast(Tapes.bytes(149, 176, 1, 0, 0, 0, 128, 63), "ROW(1.0)@0 MORE");
    }

    private static void otherRowForms() {
        Checks.about("149: kind 16 ROW: r as for 137 (or 48: 138's four bytes, 176: 139's)");
        for (int form = 0; form < 256; form++) {
            if ((form & 127) > 48) {
                Tapes.endsWithLast(Tapes.bytes(' ', 149, form), "WRONG4@2 MORE");
                reads("WRONG4@2 NUMBER(7)@3 END", ' ', 149, form, '7');
            } else {
                Tapes.readsOpen(Tapes.bytes(' ', 149, form), "MORE");
                reads("ROW()@1 NUMBER(7)@5 END", ' ', 149, form, 0, 0, '7');
            }
        }
    }

    private static void rowCounts() {
        Checks.about("how many in two bytes (in the same order as its numbers), and so many");
        for (int count = 0; count <= 60; count++) {
            String row = count == 0 ? "" : "3" + ",3".repeat(count - 1);
            Tapes.reads(Tapes.bytes(149, 32, 0, count) + "\0\3".repeat(count) + "x",
                    "ROW(" + row + ")@0 NAME(x)@" + (4 + 2 * count) + " END");
            Tapes.reads(Tapes.bytes(149, 128, count, 0) + "\3\0\0\0".repeat(count) + "x",
                    "ROW(" + row + ")@0 NAME(x)@" + (4 + 4 * count) + " END");
        }
        Tapes.readsOpen(Tapes.bytes(149, 32, 0), "MORE");
        Tapes.readsOpen(Tapes.bytes(149, 32, 1, 0) + "\0".repeat(511), "MORE");
        Tapes.readsOpen(Tapes.bytes(149, 32, 128, 0) + "\0".repeat(1000), "MORE");
        Tapes.readsOpen(Tapes.bytes(149, 0, 64, 0) + "\0".repeat(1000), "MORE");
    }

    private static void rowOrders() {
        Checks.about("(in the same order as its numbers)");
        int[] forms = {0, 1, 31, 32, 33, 47, 48};
        for (int form : forms) {
            int width = form < 32 || form == 48 ? 4 : 2;
            String none = "\0".repeat(width);
            Checks.same("one of " + form, 16, Tapes.fed(Tapes.bytes(149, form, 0, 1) + none).next());
            Checks.same("256 of " + form, 0, Tapes.fed(Tapes.bytes(149, form, 1, 0) + none.repeat(60)).next());
            Checks.same("one of " + (128 + form), 16, Tapes.fed(Tapes.bytes(149, 128 + form, 1, 0) + none).next());
            Checks.same("256 of " + (128 + form), 0, Tapes.fed(Tapes.bytes(149, 128 + form, 0, 1) + none.repeat(60)).next());
        }
        reads("ROW(513,-257)@0 END", 149, 160, 2, 0, 1, 2, 255, 254);
    }

    private static void rowSorts() {
        Checks.about("NUMBERS for r, or r - 128, of 0 and 32, else REALS");
        for (int form = 0; form < 256; form++) {
            int sort = form & 127;
            if (sort <= 48) {
                String one = Tapes.ordered(1, sort < 32 || sort == 48 ? 4 : 2, form >= 128);
                TokenReader reader = Tapes.fed(Tapes.bytes(149, form) + Tapes.ordered(1, 2, form >= 128) + one);
                boolean numbers = sort == 0 || sort == 32;
                Checks.same("a ROW", 16, reader.next());
                Checks.same("sort of r " + form, numbers ? 0 : 1, reader.binary(0, 0));
                Checks.same("NUMBER of r " + form, numbers ? 1 : 0, reader.binary(0, 1));
                Checks.same("REAL of r " + form, numbers, reader.binaryReal(0) == 0.0);
            }
        }
    }

    private static void rowsOfSixty() {
        Checks.about("60 at most");
        int[] widths = {4, 2, 4};
        int[] forms = {0, 32, 48};
        for (int i = 0; i < forms.length; i++) {
            for (int count = 59; count <= 61; count++) {
                Tapes.reads(Tapes.bytes(' ', 149, forms[i], 0, count) + "\0".repeat(widths[i] * count) + "1",
                        (count > 60 ? "WRONG1" : "ROW(" + zeros(forms[i], count) + ")") + "@1 NUMBER(1)@" + (5 + widths[i] * count) + " END");
                Tapes.reads(Tapes.bytes(' ', 149, 128 + forms[i], count, 0) + "\0".repeat(widths[i] * count) + "1",
                        (count > 60 ? "WRONG1" : "ROW(" + zeros(forms[i], count) + ")") + "@1 NUMBER(1)@" + (5 + widths[i] * count) + " END");
            }
        }
    }

    private static String zeros(int form, int count) {
        String zero = form == 48 ? "0.0" : "0";
        return zero + ("," + zero).repeat(count - 1);
    }

    private static void infiniteInRows() {
        Checks.about("e = 255 is WRONG (5).");
        reads("WRONG5@1 NUMBER(1)@13 END", 32, 149, 48, 0, 2, 63, 128, 0, 0, 127, 128, 0, 0, '1');
        reads("WRONG5@0 NUMBER(1)@12 END", 149, 176, 2, 0, 1, 2, 128, 255, 0, 0, 128, 63, '1');
        // It is for floats alone.
        reads("ROW(2139095040,-8388608)@0 END", 149, 0, 0, 2, 127, 128, 0, 0, 255, 128, 0, 0);
        reads("REAL(2.13909504E9)@0 END", 137, 0, 127, 128, 0, 0);
        Tapes.endsWithLast(Tapes.bytes(149, 48, 0, 2, 127, 128, 0, 0, 0, 0, 0, 0), "WRONG5@0 MORE");
        String one = "\u003f\u0080\0\0";
        String infinite = "\u007f\u0080\0\0";
        for (int at = 0; at < 60; at++) {
            Tapes.reads(Tapes.bytes(149, 48, 0, 60) + one.repeat(at) + infinite + one.repeat(59 - at) + "1", "WRONG5@0 NUMBER(1)@244 END");
        }
    }

    private static void otherBytes() {
        Checks.about("Other bytes are WRONG (4).");
        int[] known = {132, 133, 134, 135, 136, 137, 138, 139, 141, 142, 143, 144, 145, 146, 149};
        for (int first = 128; first < 160; first++) {
            boolean others = true;
            for (int one : known) {
                others = others && one != first;
            }
            if (others) {
                Tapes.endsWithLast(Tapes.bytes(' ', first), "WRONG4@1 MORE");
                reads("WRONG4@1 NUMBER(1)@2 END", ' ', first, '1');
            } else {
                Tapes.readsOpen(Tapes.bytes(' ', first), "MORE");
                reads("WRONG6@1 END", ' ', first);
            }
        }
    }
}
