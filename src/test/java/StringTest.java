import java.util.Random;

/** The Terms of STRINGS in ( ), in < > and in <~ ~>. */
public final class StringTest {
    private static final long TWO_TO_32 = 4294967296L;

    public static void main(String[] args) {
        bytesBetween();
        asManyOpenAsClosed();
        lettersBehindBackslash();
        octals();
        octalsEnd();
        lineEndsBehindBackslash();
        otherBytesBehindBackslash();
        lineEnds();
        pairsOfBase16();
        lastOneAlone();
        whiteInBase16();
        groupsOfBase85();
        digitsOfBase85();
        zeros();
        lastGroups();
        allLastGroupsOfTwo();
        whiteInBase85();
        notComments();
        Checks.done();
    }

    private static void string(String bytes, String want) {
        Tapes.reads(bytes, Tapes.string(want) + "@0 END");
    }

    private static void bytesBetween() {
        Checks.about("6 STRING: in ( ) bytes");
        string("()", "");
        string("(a b)", "a b");
        for (int b = 0; b < 256; b++) {
            char c = (char) b;
            if ("()\\\r\n".indexOf(c) < 0) {
                string("(" + c + ")", "" + c);
                string("(x" + c + "y)", "x" + c + "y");
            }
        }
        Tapes.reads("(a)(b)", "STRING(a)@0 STRING(b)@3 END");
        Tapes.reads("(%</[{>]}~)x", "STRING(%</[{>]}~)@0 NAME(x)@11 END");
        Tapes.reads("({)}", "STRING({)@0 WRONG3@3 END");
    }

    private static void asManyOpenAsClosed() {
        Checks.about("with as many ( as ) between");
        for (int pairs = 0; pairs <= 200; pairs++) {
            String between = "(".repeat(pairs) + ")".repeat(pairs);
            Tapes.reads("(" + between + ")x", Tapes.string(between) + "@0 NAME(x)@" + (2 + 2 * pairs) + " END");
        }
        string("(" + "()".repeat(200) + ")", "()".repeat(200));
        Tapes.reads("(a(b)(c(d)))e", "STRING(a(b)(c(d)))@0 NAME(e)@12 END");
        Tapes.reads("())", "STRING()@0 WRONG3@2 END");
        Tapes.reads("(()", "WRONG6@0 END");
        Tapes.reads("(()))", "STRING(())@0 WRONG3@4 END");
        // Those behind a backslash are not counted.
        Tapes.reads("(\\()x", "STRING(()@0 NAME(x)@4 END");
        Tapes.reads("(\\))x", "STRING())@0 NAME(x)@4 END");
        Tapes.reads("(\\(()\\)x)", "STRING((())x)@0 END");
        Tapes.reads("(\\50\\051\\051)x", "STRING(()))@0 NAME(x)@13 END");
        Tapes.readsOpen("(a(b)", "MORE");
        Tapes.readsOpen("(a\\)", "MORE");
    }

    private static void lettersBehindBackslash() {
        Checks.about("\\ and n r t b f is 10, 13, 9, 8, 12");
        string("(\\n)", "\n");
        string("(\\r)", "\r");
        string("(\\t)", "\t");
        string("(\\b)", "\b");
        string("(\\f)", "\f");
        string("(\\nn\\rr\\tt\\bb\\ff)", "\nn\rr\tt\bb\ff");
        string("(nrtbf)", "nrtbf");
        string("(\\r\\n)", "\r\n");
        string("(\\r\n)", "\r\n");
    }

    private static String octal(int value, int width) {
        return Integer.toOctalString(512 + value).substring(4 - width);
    }

    private static void octals() {
        Checks.about("\\ and one to three digits 0 .. 7 is that number of base 8, of which eight bits are left");
        for (int value = 0; value < 512; value++) {
            string("(\\" + octal(value, 3) + ")", Tapes.bytes(value));
            if (value < 64) {
                string("(\\" + octal(value, 2) + ")", Tapes.bytes(value));
            }
            if (value < 8) {
                string("(\\" + octal(value, 1) + ")", Tapes.bytes(value));
            }
        }
        string("(\\377\\400\\401\\777)", "\u00ff\0\1\u00ff");
    }

    private static void octalsEnd() {
        Checks.about("one to three digits 0 .. 7");
        String[] behind = {"8", "9", "/", ":", "x", " ", "\\\\", "()", "\\60"};
        String[] shown = {"8", "9", "/", ":", "x", " ", "\\", "()", "0"};
        for (int value = 0; value < 64; value++) {
            for (int i = 0; i < behind.length; i++) {
                string("(\\" + octal(value, 2) + behind[i] + ")", (char) value + shown[i]);
            }
        }
        for (int value = 0; value < 8; value++) {
            for (int i = 0; i < behind.length; i++) {
                string("(\\" + value + behind[i] + ")", (char) value + shown[i]);
            }
        }
        for (int digit = 0; digit < 10; digit++) {
            string("(\\101" + digit + ")", "A" + digit);
            string("(\\000" + digit + "1)", "\0" + digit + "1");
        }
        string("(\\1\\12\\123\\1234)", "\1\nSS4");
        string("(\\1\n)", "\1\n");
        string("(\\1\\\n1)", "\u00011");
    }

    private static void lineEndsBehindBackslash() {
        Checks.about("\\ before a line's end (10, 13, or 13 and 10) is nothing, with it");
        string("(a\\\nb)", "ab");
        string("(a\\\rb)", "ab");
        string("(a\\\r\nb)", "ab");
        string("(\\\n)", "");
        string("(\\\r)", "");
        string("(\\\r\n)", "");
        // Only 13 and 10 are one end, not 10 and 13, nor two alike.
        string("(a\\\n\rb)", "a\nb");
        string("(a\\\n\nb)", "a\nb");
        string("(a\\\r\rb)", "a\nb");
        string("(a\\\r\n\nb)", "a\nb");
        string("(a\\\r\n\rb)", "a\nb");
        string("(a\\\r\\\nb)", "ab");
        string("(a\\\r\r\nb)", "a\nb");
        string("(a\\\fb)", "a\fb");
    }

    private static void otherBytesBehindBackslash() {
        Checks.about("\\ and another byte is that byte");
        for (int b = 0; b < 256; b++) {
            char c = (char) b;
            if ("nrtbf01234567\r\n".indexOf(c) < 0) {
                string("(\\" + c + ")", "" + c);
                string("(x\\" + c + "y)", "x" + c + "y");
            }
        }
        string("(\\\\n\\\\)", "\\n\\");
        string("(\\N\\8\\9)", "N89");
        Tapes.reads("(\\)", "WRONG6@0 END");
        Tapes.reads("(\\\\)", "STRING(\\)@0 END");
        Tapes.readsOpen("(a\\", "MORE");
    }

    private static void lineEnds() {
        Checks.about("a line's end without it is 10");
        string("(\n)", "\n");
        string("(\r)", "\n");
        string("(\r\n)", "\n");
        string("(\n\r)", "\n\n");
        string("(\n\n)", "\n\n");
        string("(\r\r)", "\n\n");
        string("(\r\r\n)", "\n\n");
        string("(\r\n\r\n)", "\n\n");
        string("(\r\n\n)", "\n\n");
        string("(a\nb\rc\r\nd)", "a\nb\nc\nd");
        string("(\n\r\r\r\n\n)", "\n\n\n\n\n");
        string("(\f\u0085)", "\f\u0085");
        string("((\r)\r)", "(\n)\n");
    }

    private static void pairsOfBase16() {
        Checks.about("In < > digits of base 16, of both sizes, two by two");
        String digits = "0123456789abcdefABCDEF";
        for (int high = 0; high < digits.length(); high++) {
            for (int low = 0; low < digits.length(); low++) {
                String pair = "" + digits.charAt(high) + digits.charAt(low);
                string("<" + pair + ">", Tapes.bytes(Integer.parseInt(pair, 16)));
            }
        }
        string("<>", "");
        string("<4a4B4c>", "JKL");
        string("<00ff00>", "\0\u00ff\0");
        Tapes.reads("<4a><4B>", "STRING(J)@0 STRING(K)@4 END");
    }

    private static void lastOneAlone() {
        Checks.about("(a last one alone with 0)");
        String digits = "0123456789abcdefABCDEF";
        for (int i = 0; i < digits.length(); i++) {
            char digit = digits.charAt(i);
            int high = 16 * Character.digit(digit, 16);
            string("<" + digit + ">", Tapes.bytes(high));
            string("<41" + digit + ">", "A" + Tapes.bytes(high));
            string("< 4 1 " + digit + " >", "A" + Tapes.bytes(high));
        }
    }

    private static void whiteInBase16() {
        Checks.about("what is WHITE between passed (not comments)");
        for (int i = 0; i < Tapes.WHITES.length(); i++) {
            char white = Tapes.WHITES.charAt(i);
            string("<" + white + "4142>", "AB");
            string("<4" + white + "142>", "AB");
            string("<41" + white + "42>", "AB");
            string("<4142" + white + ">", "AB");
            string("<" + white + ">", "");
            string("<" + white + white + "4" + white + white + ">", "@");
        }
        string("< 4\0 1\t\n\f\r42 >", "AB");
        Tapes.reads("<41%\n42>", "WRONG2@3 NUMBER(42)@5 WRONG3@7 END");
        Tapes.reads("<%c\n>", "WRONG2@1 NAME(c)@2 WRONG3@4 END");
    }

    /** The digits of a number, as many as asked for, the highest first. */
    private static String base85(long number, int width) {
        StringBuilder digits = new StringBuilder();
        long left = number;
        for (int k = 0; k < 5; k++) {
            digits.append((char) (33 + left % 85));
            left = left / 85;
        }
        return digits.reverse().substring(0, width);
    }

    private static void groupsOfBase85() {
        Checks.about("In <~ ~> digits of base 85 (33 .. 117), five by five, the highest first, make four bytes each");
        long[] numbers = {0, 1, 84, 85, 255, 256, 65535, 65536, 16777215, 16777216, 52200624, 52200625,
            2147483647L, 2147483648L, 4294967294L, 4294967295L};
        for (long number : numbers) {
            string("<~" + base85(number, 5) + "~>", Tapes.ordered(number, 4, false));
        }
        Random random = new Random(5);
        for (int run = 0; run < 500; run++) {
            long first = random.nextInt() & 4294967295L;
            long second = random.nextInt() & 4294967295L;
            string("<~" + base85(first, 5) + base85(second, 5) + "~>",
                    Tapes.ordered(first, 4, false) + Tapes.ordered(second, 4, false));
        }
        string("<~~>", "");
        string("<~9jqo^~>", "Man ");
        Tapes.reads("<~9jqo^BlbD-~>x", "STRING(Man$20is$20d)@0 NAME(x)@14 END");
    }

    private static void digitsOfBase85() {
        Checks.about("digits of base 85 (33 .. 117)");
        long weight = 1L;
        for (int at = 4; at >= 0; at--) {
            for (int digit = 0; digit < 85; digit++) {
                StringBuilder group = new StringBuilder("!!!!!");
                group.setCharAt(at, (char) (33 + digit));
                long number = digit * weight;
                if (number < TWO_TO_32) {
                    string("<~" + group + "~>", Tapes.ordered(number, 4, false));
                } else {
                    Checks.same("too great " + group, "WRONG2@6", Tapes.first("<~" + group + "~>"));
                }
            }
            weight = weight * 85;
        }
        // These begin or end other TOKENS, but are digits here.
        string("<~>>>>>~>", "[N\5\u0019");
        string("<~<<<<<~>", "U\2\4\u00bf");
        string("<~!!!!(!!!!)~>", "\0\0\0\7\0\0\0\10");
    }

    private static void zeros() {
        Checks.about("z between fives four bytes 0");
        String zero = "\0\0\0\0";
        string("<~z~>", zero);
        string("<~zz~>", zero + zero);
        string("<~z9jqo^~>", zero + "Man ");
        string("<~9jqo^z~>", "Man " + zero);
        string("<~9jqo^z9jqo^~>", "Man " + zero + "Man ");
        string("<~z5l~>", zero + "A");
        string("<~ z z ~>", zero + zero);
        string("<~!!!!!z!!!!!~>", zero + zero + zero);
        for (int digits = 1; digits < 5; digits++) {
            Tapes.reads("<~" + "!".repeat(digits) + "z", "WRONG2@" + (2 + digits) + " END");
            Tapes.reads("<~9jqo^" + "!".repeat(digits) + " z", "WRONG2@" + (8 + digits) + " END");
        }
    }

    private static void lastGroups() {
        Checks.about("of a last group of 2, 3 or 4 (as if digits 84 followed) the first 1, 2, 3 bytes");
        Random random = new Random(6);
        for (int count = 1; count <= 3; count++) {
            for (int run = 0; run < 300; run++) {
                long kept = count == 1 && run < 256 ? run : random.nextInt(1 << 8 * count);
                String group = base85(kept << 32 - 8 * count, count + 1);
                String bytes = Tapes.ordered(kept, count, false);
                string("<~" + group + "~>", bytes);
                string("<~9jqo^z" + group + "~>", "Man \0\0\0\0" + bytes);
            }
        }
        string("<~!!~>", "\0");
        string("<~!!!~>", "\0\0");
        string("<~!!!!~>", "\0\0\0");
        string("<~s7~>", "\u00ff");
        string("<~s8V~>", "\u00ff\u00ff");
        string("<~s8W,~>", "\u00ff\u00ff\u00ff");
        // A filler of less, or of more, would carry into the bytes that are kept.
        string("<~5!\"D~>", ">:\u0086");
        string("<~5!\"G~>", ">:\u0086");
    }

    private static void allLastGroupsOfTwo() {
        Checks.about("as if digits 84 followed");
        for (int high = 0; high < 85; high++) {
            for (int low = 0; low < 85; low++) {
                long filled = (high * 85L + low) * 614125L + 614124L;
                String bytes = "<~" + (char) (33 + high) + (char) (33 + low) + "~>";
                String due = filled < TWO_TO_32 ? Tapes.string(Tapes.bytes((int) (filled >> 24))) + "@0" : "WRONG2@4";
                Checks.same(bytes, due, Tapes.first(bytes));
            }
        }
    }

    private static void whiteInBase85() {
        Checks.about("what is WHITE between is passed");
        for (int i = 0; i < Tapes.WHITES.length(); i++) {
            char white = Tapes.WHITES.charAt(i);
            string("<~" + white + "9jqo^~>", "Man ");
            string("<~9" + white + "jqo^~>", "Man ");
            string("<~9jqo" + white + "^~>", "Man ");
            string("<~9jqo^" + white + "~>", "Man ");
            string("<~9jqo^" + white + "z" + white + "5l" + white + "~>", "Man \0\0\0\0A");
            string("<~" + white + white + "~>", "");
            Tapes.reads("<~" + white + "!" + white + "~", "WRONG2@5 END");
        }
        string("<~ 9\0j\tq\no\f^\r~>", "Man ");
    }

    private static void notComments() {
        Checks.about("what is WHITE between is passed (not comments)");
        string("<~!!!!%~>", "\0\0\0\4");
        string("<~%%~>", Tapes.bytes((int) ((4L * 85 + 4) * 614125L + 614124L >> 24)));
        Tapes.reads("<~9jqo^%\n~>", "WRONG2@9 WRONG3@10 END");
    }
}
