/** The Terms of what is WRONG: 1 to 6, what is read then, and which place is told. */
public final class WrongTest {
    private static final int[] BINARY = {132, 133, 134, 135, 136, 137, 138, 139, 141, 142, 143, 144, 145, 146, 149};

    public static void main(String[] args) {
        answers();
        longWords();
        longWordsOfEachSort();
        longWordsBehindSlashes();
        longWordsAreToldWhole();
        longStrings();
        longBinaryStrings();
        longRows();
        bracesTooDeep();
        notInBase16();
        notInBase85();
        zerosWithin();
        fifthDigits();
        tildesBehindOne();
        tildesAboveThat();
        notGreater();
        alone();
        fourAndFive();
        stringsNotWhole();
        binaryNotWhole();
        bracesWithoutEnd();
        oneAheadOfFive();
        readWhole();
        bytesBeforeTheLength();
        readToTheWrongByte();
        readAll();
        placesOfFirstBytes();
        placesOfWrongBytes();
        placesOfBraces();
        Checks.done();
    }

    private static void wrong(String bytes, int which) {
        TokenReader reader = Tapes.fed(bytes);
        reader.end();
        Checks.same("answer of " + Tapes.shown(bytes), -1 - which, reader.next());
    }

    private static void answers() {
        Checks.about("WRONG: the answer is -1 less 1");
        wrong("a".repeat(101), 1);
        wrong("<g>", 2);
        wrong(")", 3);
        wrong(Tapes.bytes(128), 4);
        wrong("1e999", 5);
        wrong("(", 6);
    }

    private static void longWords() {
        Checks.about("a WORD of more than 100 bytes");
        for (int length = 99; length <= 102; length++) {
            String word = "a".repeat(length);
            String due = length > 100 ? "WRONG1@1" : "NAME(" + word + ")@1";
            Tapes.reads(" " + word + " b", due + " NAME(b)@" + (length + 2) + " END");
            Tapes.reads(" " + word, due + " END");
        }
        int[] lengths = {200, 255, 256, 257, 300, 356, 400, 401, 402, 450, 2900};
        for (int length : lengths) {
            Tapes.reads("a".repeat(length) + " b", "WRONG1@0 NAME(b)@" + (length + 1) + " END");
        }
    }

    private static void longWordsOfEachSort() {
        Checks.about("1: a WORD of more than 100 bytes");
        Tapes.reads("0".repeat(98) + "12", "NUMBER(12)@0 END");
        Tapes.reads("0".repeat(99) + "12 7", "WRONG1@0 NUMBER(7)@102 END");
        Tapes.reads("-" + "0".repeat(97) + "12", "NUMBER(-12)@0 END");
        Tapes.reads("-" + "0".repeat(98) + "12 7", "WRONG1@0 NUMBER(7)@102 END");
        Tapes.reads("16#" + "0".repeat(96) + "f", "NUMBER(15)@0 END");
        Tapes.reads("16#" + "0".repeat(97) + "f 7", "WRONG1@0 NUMBER(7)@102 END");
        Tapes.reads("0".repeat(96) + "12e9", "REAL(1.2E10)@0 END");
        Tapes.reads("0".repeat(97) + "12e9 7", "WRONG1@0 NUMBER(7)@102 END");
        Tapes.reads("0".repeat(97) + "1.5", "REAL(1.5)@0 END");
        Tapes.reads("0".repeat(98) + "1.5 7", "WRONG1@0 NUMBER(7)@102 END");
    }

    private static void longWordsBehindSlashes() {
        Checks.about("(also behind /)");
        for (int length = 99; length <= 102; length++) {
            String word = "a".repeat(length);
            boolean fits = length <= 100;
            Tapes.reads(" /" + word + " b", (fits ? "LITERAL(" + word + ")" : "WRONG1") + "@1 NAME(b)@" + (length + 3) + " END");
            Tapes.reads(" //" + word + " b", (fits ? "INSTANT(" + word + ")" : "WRONG1") + "@1 NAME(b)@" + (length + 4) + " END");
            Tapes.reads("/" + word + "/", (fits ? "LITERAL(" + word + ")" : "WRONG1") + "@0 LITERAL()@" + (length + 1) + " END");
        }
        Tapes.reads("/" + "a".repeat(450) + " b", "WRONG1@0 NAME(b)@452 END");
        Tapes.reads("//" + "a".repeat(450) + " b", "WRONG1@0 NAME(b)@453 END");
    }

    private static void longWordsAreToldWhole() {
        Checks.about("the whole TOKEN (1");
        String[] words = {"a".repeat(101), "/" + "a".repeat(101), "//" + "a".repeat(101)};
        for (String word : words) {
            Tapes.readsOpen(word, "MORE");
            Tapes.readsOpen(word + "bc", "MORE");
            Tapes.readsOpen(word + "bc(", "WRONG1@0 MORE");
        }
    }

    private static void longStrings() {
        Checks.about("a STRING of more than 400");
        for (int length = 398; length <= 402; length++) {
            String text = "a".repeat(length);
            String due = (length > 400 ? "WRONG1" : "STRING(" + text + ")") + "@1 NAME(b)@";
            Tapes.reads(" (" + text + ")b", due + (length + 3) + " END");
            Tapes.reads(" (" + "a".repeat(length - 1) + "\\141)b", due + (length + 6) + " END");
            Tapes.reads(" (" + text + "\\\n)b", due + (length + 5) + " END");
            Tapes.reads(" <" + "61".repeat(length) + ">b", due + (2 * length + 3) + " END");
            String wide = "(".repeat(length / 2) + ")".repeat(length / 2) + "x".repeat(length % 2);
            Tapes.reads(" (" + wide + ")b", (length > 400 ? "WRONG1" : "STRING(" + wide + ")") + "@1 NAME(b)@" + (length + 3) + " END");
        }
        Tapes.reads("<" + "61".repeat(399) + "6>b", "STRING(" + "a".repeat(399) + "`)@0 NAME(b)@801 END");
        Tapes.reads("<" + "61".repeat(400) + "6>b", "WRONG1@0 NAME(b)@803 END");
        String zeros = "$00".repeat(400);
        Tapes.reads("<~" + "z".repeat(99) + "!!!!~>b", "STRING(" + zeros.substring(3) + ")@0 NAME(b)@107 END");
        Tapes.reads("<~" + "z".repeat(100) + "~>b", "STRING(" + zeros + ")@0 NAME(b)@104 END");
        Tapes.reads("<~" + "z".repeat(99) + "!!!!!~>b", "STRING(" + zeros + ")@0 NAME(b)@108 END");
        Tapes.reads("<~" + "z".repeat(100) + "!!~>b", "WRONG1@0 NAME(b)@106 END");
        Tapes.reads("<~" + "z".repeat(101) + "~>b", "WRONG1@0 NAME(b)@105 END");
        Tapes.reads("<~" + "!".repeat(505) + "~>b", "WRONG1@0 NAME(b)@509 END");
        Tapes.reads("(" + "a".repeat(2900) + ")b", "WRONG1@0 NAME(b)@2902 END");
        Tapes.readsOpen("(" + "a".repeat(401), "MORE");
        Tapes.readsOpen("<" + "61".repeat(401), "MORE");
        Tapes.readsOpen("<~" + "z".repeat(101), "MORE");
    }

    private static void longBinaryStrings() {
        Checks.about("a STRING of more than 400");
        for (int length = 399; length <= 402; length++) {
            String text = "a".repeat(length);
            String due = (length > 400 ? "WRONG1" : "STRING(" + text + ")") + "@1 NAME(b)@" + (length + 4) + " END";
            Tapes.reads(" " + Tapes.bytes(143) + Tapes.ordered(length, 2, false) + text + "b", due);
            Tapes.reads(" " + Tapes.bytes(144) + Tapes.ordered(length, 2, true) + text + "b", due);
        }
        Tapes.reads(Tapes.bytes(143, 8, 0) + "a".repeat(2048) + "b", "WRONG1@0 NAME(b)@2051 END");
        Tapes.readsOpen(Tapes.bytes(143, 1, 145) + "a".repeat(400), "MORE");
        Tapes.readsOpen(Tapes.bytes(143, 255, 255) + "a".repeat(401), "MORE");
    }

    private static void longRows() {
        Checks.about("a ROW of more than 60");
        for (int form = 0; form < 256; form++) {
            int sort = form & 127;
            int width = sort < 32 || sort == 48 ? 4 : 2;
            for (int count = 59; count <= 62 && sort <= 48; count++) {
                boolean fits = count <= 60;
                String row = Tapes.bytes(149, form) + Tapes.ordered(count, 2, form >= 128) + "\0".repeat(width * count);
                TokenReader reader = Tapes.fed(" " + row + "b ");
                Checks.same("a ROW of " + count, fits ? 16 : -2, reader.next());
                Checks.same("how many", fits ? (long) count : 0L, reader.whole());
                Checks.same("its place", 1, reader.place());
                Checks.same("what follows", 3, reader.next());
                Checks.same("its place", 1 + row.length(), reader.place());
            }
        }
        Tapes.reads(Tapes.bytes(149, 32, 1, 0) + "\0".repeat(512) + "b", "WRONG1@0 NAME(b)@516 END");
        Tapes.reads(Tapes.bytes(149, 160, 0, 1) + "\0".repeat(512) + "b", "WRONG1@0 NAME(b)@516 END");
        Tapes.readsOpen(Tapes.bytes(149, 32, 0, 61) + "\0".repeat(121), "MORE");
        Tapes.readsOpen(Tapes.bytes(149, 0, 0, 61) + "\0".repeat(243), "MORE");
        Tapes.readsOpen(Tapes.bytes(149, 32, 255, 255) + "\0".repeat(122), "MORE");
    }

    private static void bracesTooDeep() {
        Checks.about("a { too deep");
        StringBuilder opened = new StringBuilder();
        for (int i = 0; i < 20; i++) {
            opened.append("{@").append(i).append(' ');
        }
        Tapes.readsOpen("{".repeat(19), opened.substring(0, opened.length() - 5) + "MORE");
        Tapes.readsOpen("{".repeat(20), opened + "MORE");
        Tapes.readsOpen("{".repeat(21), opened + "WRONG1@20 MORE");
        Tapes.readsOpen("{".repeat(22) + "[", opened + "WRONG1@20 WRONG1@21 [@22 MORE");
        Tapes.reads("{".repeat(21), opened + "WRONG1@20 WRONG6@19 END");
    }

    private static boolean isBase16(int b) {
        return "0123456789abcdefABCDEF".indexOf(b) >= 0;
    }

    private static void notInBase16() {
        Checks.about("2: a byte that may not be in < >");
        for (int b = 0; b < 256; b++) {
            boolean may = isBase16(b) || Tapes.isWhite(b) || b == '>';
            String c = Tapes.bytes(b);
            if (may) {
                Checks.same("may be: " + b, true, Tapes.first("<4" + c + ">").startsWith("STRING("));
                Checks.same("may be behind two: " + b, true, Tapes.first("<41" + c + ">").startsWith("STRING("));
            } else {
                Tapes.endsWithLast("<4" + c, "WRONG2@2 MORE");
                Tapes.endsWithLast("<41" + c, "WRONG2@3 MORE");
                Tapes.endsWithLast("< " + c, "WRONG2@2 MORE");
            }
            if (!may && b != '<' && b != '~') {
                Tapes.endsWithLast("<" + c, "WRONG2@1 MORE");
            }
        }
    }

    private static void notInBase85() {
        Checks.about("or <~ ~>");
        for (int b = 0; b < 256; b++) {
            String c = Tapes.bytes(b);
            boolean may = b >= 33 && b <= 117 || Tapes.isWhite(b);
            if (may) {
                Tapes.readsOpen("<~" + c, "MORE");
                Tapes.readsOpen("<~!" + c, "MORE");
            } else if (b != '~') {
                Tapes.readsOpen("<~" + c, b == 'z' ? "MORE" : "WRONG2@2 MORE");
                Tapes.readsOpen("<~9jqo^ " + c, b == 'z' ? "MORE" : "WRONG2@8 MORE");
                Tapes.readsOpen("<~!" + c, "WRONG2@3 MORE");
                Tapes.readsOpen("<~!!!!" + c, "WRONG2@6 MORE");
            }
        }
        Tapes.readsOpen("<~u", "MORE");
        Tapes.readsOpen("<~v", "WRONG2@2 MORE");
    }

    private static void zerosWithin() {
        Checks.about("(z within a group;");
        for (int digits = 1; digits <= 4; digits++) {
            String group = "<~" + "!".repeat(digits);
            Tapes.endsWithLast(group + "z", "WRONG2@" + group.length() + " MORE");
            Tapes.endsWithLast(group + " z", "WRONG2@" + (group.length() + 1) + " MORE");
        }
        Tapes.readsOpen("<~z", "MORE");
        Tapes.readsOpen("<~!!!!!z", "MORE");
        Tapes.readsOpen("<~zz", "MORE");
        Tapes.endsWithLast("<~z!z", "WRONG2@4 MORE");
    }

    private static void fifthDigits() {
        Checks.about("the fifth digit of a group above 4294967295;");
        Tapes.readsOpen("<~s8W-", "MORE");
        Tapes.readsOpen("<~s8W-!", "MORE");
        Tapes.endsWithLast("<~s8W-\"", "WRONG2@6 MORE");
        Tapes.readsOpen("<~s8W-#", "WRONG2@6 MORE");
        Tapes.readsOpen("<~s8W,u", "MORE");
        Tapes.readsOpen("<~s8V!!", "MORE");
        Tapes.endsWithLast("<~uuuuu", "WRONG2@6 MORE");
        Tapes.endsWithLast("<~t!!!!", "WRONG2@6 MORE");
        Tapes.endsWithLast("<~s9!!!", "WRONG2@6 MORE");
        Tapes.endsWithLast("<~s8X!!", "WRONG2@6 MORE");
        Tapes.endsWithLast("<~s8W.!", "WRONG2@6 MORE");
        // It is the fifth digit that tells, wherever WHITE stands.
        Tapes.endsWithLast("<~ u u u u u", "WRONG2@11 MORE");
        Tapes.endsWithLast("<~s8W-!s8W-\"", "WRONG2@11 MORE");
        Tapes.reads("<~s8W-!~>", "STRING($ff$ff$ff$ff)@0 END");
    }

    private static void tildesBehindOne() {
        Checks.about("~ behind one digit of a group");
        Tapes.endsWithLast("<~!~", "WRONG2@3 MORE");
        Tapes.endsWithLast("<~! ~", "WRONG2@4 MORE");
        Tapes.endsWithLast("<~u~", "WRONG2@3 MORE");
        Tapes.endsWithLast("<~!!!!!!~", "WRONG2@8 MORE");
        Tapes.endsWithLast("<~z!~", "WRONG2@4 MORE");
        Tapes.readsOpen("<~~", "MORE");
        Tapes.readsOpen("<~!!~", "MORE");
        Tapes.readsOpen("<~!!!!!~", "MORE");
    }

    private static void tildesAboveThat() {
        Checks.about("or behind some that are above that;");
        Tapes.readsOpen("<~s7~", "MORE");
        Tapes.endsWithLast("<~s8~", "WRONG2@4 MORE");
        Tapes.endsWithLast("<~t!~", "WRONG2@4 MORE");
        Tapes.readsOpen("<~s8V~", "MORE");
        Tapes.endsWithLast("<~s8W~", "WRONG2@5 MORE");
        Tapes.endsWithLast("<~uuu~", "WRONG2@5 MORE");
        Tapes.readsOpen("<~s8W,~", "MORE");
        Tapes.endsWithLast("<~s8W-~", "WRONG2@6 MORE");
        Tapes.endsWithLast("<~uuuu~", "WRONG2@6 MORE");
        Tapes.endsWithLast("<~s8W-!s8 ~", "WRONG2@10 MORE");
    }

    private static void notGreater() {
        Checks.about("what follows ~ and is no >)");
        for (int b = 0; b < 256; b++) {
            if (b == '>') {
                Tapes.readsOpen("<~~>", "STRING()@0 MORE");
            } else {
                Tapes.readsOpen("<~~" + Tapes.bytes(b), "WRONG2@3 MORE");
                Tapes.readsOpen("<~!!~" + Tapes.bytes(b), "WRONG2@5 MORE");
            }
        }
        Tapes.endsWithLast("<~z~ ", "WRONG2@4 MORE");
        Tapes.reads("<~~%\n>", "WRONG2@3 WRONG3@5 END");
    }

    private static void alone() {
        Checks.about("3: ) alone, > alone, } without {");
        Tapes.reads(")", "WRONG3@0 END");
        Tapes.reads("())", "STRING()@0 WRONG3@2 END");
        Tapes.reads("a)b", "NAME(a)@0 WRONG3@1 NAME(b)@2 END");
        Tapes.reads(">", "WRONG3@0 END");
        Tapes.reads("> >", "WRONG3@0 WRONG3@2 END");
        Tapes.reads(">>>", ">>@0 WRONG3@2 END");
        Tapes.reads("<>>", "STRING()@0 WRONG3@2 END");
        for (int b = 0; b < 256; b++) {
            Checks.same("> and " + b, b == '>' ? ">>@0" : "WRONG3@0", Tapes.first(">" + Tapes.bytes(b)));
        }
        Tapes.reads("}", "WRONG3@0 END");
        Tapes.reads("{}}", "{@0 }@1 WRONG3@2 END");
        Tapes.reads("}{}", "WRONG3@0 {@1 }@2 END");
        Tapes.reads("({)}", "STRING({)@0 WRONG3@3 END");
    }

    private static void fourAndFive() {
        Checks.about("4, 5 as told");
        wrong(Tapes.bytes(137, 48), 4);
        wrong(Tapes.bytes(149, 49), 4);
        wrong(Tapes.bytes(141, 2), 4);
        wrong(Tapes.bytes(140), 4);
        wrong("16#100000000", 5);
        wrong("1e309", 5);
        wrong(Tapes.bytes(138, 127, 128, 0, 0), 5);
        wrong(Tapes.bytes(149, 176, 1, 0, 0, 0, 128, 255), 5);
    }

    private static void stringsNotWhole() {
        Checks.about("6: at the END a STRING");
        String[] parts = {"(", "(a", "(a(b)", "(a\\)", "(a\\", "(a\\1", "(a\r", "(" + "a".repeat(401), "<", "< ", "<4", "<41", "<41 ",
            "<~", "<~!", "<~!!", "<~!!!!!", "<~z", "<~~", "<~!!~", "<~z ", "<~" + "z".repeat(101), "<" + "61".repeat(401)};
        for (String part : parts) {
            Tapes.readsOpen(" " + part, "MORE");
            Tapes.reads(" " + part, "WRONG6@1 END");
            Tapes.reads("{" + part, "{@0 WRONG6@1 WRONG6@0 END");
        }
        String[] whole = {"(a)", "<>", "<4>", "<~~>", "<~!!~>"};
        for (String string : whole) {
            Checks.same("whole " + string, true, Tapes.first(string).startsWith("STRING("));
        }
    }

    private static String anyOf(int first) {
        switch (first) {
            case 132: case 133: return Tapes.bytes(first, 1, 2, 3, 4);
            case 134: case 135: return Tapes.bytes(first, 1, 2);
            case 137: return Tapes.bytes(first, 0, 1, 2, 3, 4);
            case 138: case 139: return Tapes.bytes(first, 63, 128, 0, 0);
            case 142: return Tapes.bytes(first, 3) + "abc";
            case 143: return Tapes.bytes(first, 0, 3) + "abc";
            case 144: return Tapes.bytes(first, 3, 0) + "abc";
            case 149: return Tapes.bytes(first, 32, 0, 2, 0, 1, 0, 2);
            default: return Tapes.bytes(first, 1);
        }
    }

    private static void binaryNotWhole() {
        Checks.about("or BINARY TOKEN that is not whole");
        for (int first : BINARY) {
            String whole = anyOf(first);
            for (int length = 1; length < whole.length(); length++) {
                String part = whole.substring(0, length);
                Tapes.readsOpen(" " + part, "MORE");
                Tapes.reads(" " + part, "WRONG6@1 END");
                Tapes.reads("{" + part, "{@0 WRONG6@1 WRONG6@0 END");
            }
            Checks.same("whole " + first, false, Tapes.first(whole).startsWith("WRONG"));
        }
        Tapes.reads(Tapes.bytes(137, 32, 1), "WRONG6@0 END");
        Tapes.reads(Tapes.bytes(149, 0, 0, 1, 0, 0, 0), "WRONG6@0 END");
        Tapes.reads(Tapes.bytes(149, 32, 0, 61) + "\0".repeat(121), "WRONG6@0 END");
        Tapes.reads(Tapes.bytes(149, 0, 255, 255) + "\0".repeat(120), "WRONG6@0 END");
        Tapes.reads(Tapes.bytes(143, 255, 255) + "a".repeat(450), "WRONG6@0 END");
        Tapes.reads(Tapes.bytes(149, 48, 0, 2, 127, 128, 0, 0), "WRONG6@0 END");
    }

    private static void bracesWithoutEnd() {
        Checks.about("or { without } (the innermost one; DEPTH is 0 then)");
        Tapes.reads("{", "{@0 WRONG6@0 END");
        Tapes.reads(" { ", "{@1 WRONG6@1 END");
        Tapes.reads("{}", "{@0 }@1 END");
        Tapes.reads("{{", "{@0 {@1 WRONG6@1 END");
        Tapes.reads("{{}", "{@0 {@1 }@2 WRONG6@0 END");
        Tapes.reads(" {{}{ ", "{@1 {@2 }@3 {@4 WRONG6@4 END");
        Tapes.reads("{ { { } }", "{@0 {@2 {@4 }@6 }@8 WRONG6@0 END");
        Tapes.reads("{%}", "{@0 WRONG6@0 END");
        Tapes.readsOpen("{ ", "{@0 MORE");
        for (int braces = 1; braces <= 20; braces++) {
            TokenReader reader = Tapes.fed("{".repeat(braces) + "ab");
            reader.end();
            for (int i = 0; i < braces; i++) {
                reader.next();
            }
            Checks.same("a TOKEN behind them", 3, reader.next());
            Checks.same("depth before", braces, reader.depth());
            Checks.same("without }", -7, reader.next());
            Checks.same("the innermost one", braces - 1, reader.place());
            Checks.same("depth then", 0, reader.depth());
            Checks.same("told once", 20, reader.next());
            Checks.same("the place stays", braces - 1, reader.place());
        }
    }

    private static void oneAheadOfFive() {
        Checks.about("(1 ahead of 5.)");
        Tapes.reads("16#" + "f".repeat(97), "WRONG5@0 END");
        Tapes.reads("16#" + "f".repeat(98), "WRONG1@0 END");
        Tapes.reads("0".repeat(95) + "1e999", "WRONG5@0 END");
        Tapes.reads("0".repeat(96) + "1e999", "WRONG1@0 END");
        String infinite = Tapes.bytes(127, 128, 0, 0);
        Tapes.reads(Tapes.bytes(149, 48, 0, 60) + infinite.repeat(60), "WRONG5@0 END");
        Tapes.reads(Tapes.bytes(149, 48, 0, 61) + infinite.repeat(61), "WRONG1@0 END");
        Tapes.reads(Tapes.bytes(149, 176, 60, 0) + "\0\0\u0080\u00ff".repeat(60), "WRONG5@0 END");
        Tapes.reads(Tapes.bytes(149, 176, 61, 0) + "\0\0\u0080\u00ff".repeat(61), "WRONG1@0 END");
    }

    /** Reads the first TOKEN, tells the END, and compares how many bytes were left. */
    private static void leaves(String bytes, int answer, int unread) {
        TokenReader reader = Tapes.fed(bytes);
        Checks.same("answer of " + Tapes.shown(bytes), answer, reader.next());
        Checks.same("left of " + Tapes.shown(bytes), unread, reader.end());
    }

    private static void readWhole() {
        Checks.about("Read are then: the whole TOKEN (1, 5;");
        leaves("a".repeat(101) + " b", -2, 2);
        leaves("/" + "a".repeat(101) + "/b", -2, 2);
        leaves("//" + "a".repeat(500) + "[", -2, 1);
        leaves("(" + "a".repeat(401) + ")b", -2, 1);
        leaves("<" + "61".repeat(401) + ">b", -2, 1);
        leaves("<~" + "z".repeat(101) + "~>b", -2, 1);
        leaves(Tapes.bytes(143, 1, 145) + "a".repeat(403), -2, 2);
        leaves(Tapes.bytes(149, 32, 0, 61) + "a".repeat(124), -2, 2);
        leaves("16#100000000 b", -6, 2);
        leaves("1e309(b", -6, 2);
        leaves(Tapes.bytes(138, 127, 128, 0, 0, 1), -6, 1);
        leaves(Tapes.bytes(139, 0, 0, 128, 127, 1), -6, 1);
        leaves(Tapes.bytes(149, 48, 0, 2, 127, 128, 0, 0, 0, 0, 0, 0, 1), -6, 1);
        TokenReader deep = Tapes.fed("{".repeat(21) + "b");
        for (int i = 0; i < 20; i++) {
            deep.next();
        }
        Checks.same("too deep", -2, deep.next());
        Checks.same("left", 1, deep.end());
    }

    private static void bytesBeforeTheLength() {
        Checks.about("a byte that may not be there tells before the length");
        Tapes.reads("<" + "61".repeat(401) + "g", "WRONG2@803 END");
        Tapes.readsOpen("<" + "61".repeat(401) + "g", "WRONG2@803 MORE");
        Tapes.reads("<~" + "z".repeat(101) + "v", "WRONG2@103 END");
        Tapes.reads("<~" + "z".repeat(101) + "!z", "WRONG2@104 END");
        Tapes.reads("<~" + "z".repeat(101) + "!~", "WRONG2@104 END");
        Tapes.reads("<~" + "z".repeat(101) + "s8~", "WRONG2@105 END");
        Tapes.reads("<~" + "z".repeat(101) + "uuuuu", "WRONG2@107 END");
        Tapes.reads("<~" + "z".repeat(101) + "~x", "WRONG2@104 END");
        Tapes.reads(Tapes.bytes(149, 49, 0, 61), "WRONG4@1 NAME(=)@3 END");
    }

    private static void readToTheWrongByte() {
        Checks.about("all up to the wrong byte, with it (2, 3, 4)");
        leaves("<41gab", -3, 2);
        leaves("<~!!zab", -3, 2);
        leaves("<~s8W-\"ab", -3, 2);
        leaves("<~!~>ab", -3, 3);
        leaves("<~s8~>ab", -3, 3);
        leaves("<~~xab", -3, 2);
        leaves(" )ab", -4, 2);
        leaves(" >ab", -4, 2);
        leaves(" }ab", -4, 2);
        leaves(Tapes.bytes(128, 1, 2), -5, 2);
        leaves(Tapes.bytes(137, 48, 1, 2), -5, 2);
        leaves(Tapes.bytes(141, 2, 1), -5, 1);
        leaves(Tapes.bytes(149, 49, 0, 0), -5, 2);
        Tapes.reads("<41g42>", "WRONG2@3 NUMBER(42)@4 WRONG3@6 END");
        Tapes.reads("<41 <42>", "WRONG2@4 NUMBER(42)@5 WRONG3@7 END");
        Tapes.reads(Tapes.bytes(128, 136, 7), "WRONG4@0 NUMBER(7)@1 END");
    }

    private static void readAll() {
        Checks.about("all there is (6)");
        String[] parts = {"((a) b", "(a (b) ", "<41 42", "<~9jqo^ z"};
        for (String part : parts) {
            TokenReader reader = Tapes.fed("[" + part);
            reader.next();
            Checks.same("not known yet", 0, reader.next());
            reader.end();
            Checks.same("not whole " + part, -7, reader.next());
            Checks.same("nothing is left of " + part, 20, reader.next());
        }
        for (int first : BINARY) {
            String whole = anyOf(first);
            Tapes.reads("[" + whole.substring(0, whole.length() - 1), "[@0 WRONG6@1 END");
        }
        Tapes.reads(Tapes.bytes(142, 9) + "a b c", "WRONG6@0 END");
    }

    private static void placesOfFirstBytes() {
        Checks.about("The place is that of the TOKEN's first byte");
        Tapes.reads(" \n" + "a".repeat(101), "WRONG1@2 END");
        Tapes.reads(" \n/" + "a".repeat(101), "WRONG1@2 END");
        Tapes.reads(" \n//" + "a".repeat(101), "WRONG1@2 END");
        Tapes.reads(" \n(" + "a".repeat(401) + ")", "WRONG1@2 END");
        Tapes.reads(" \n" + Tapes.bytes(149, 32, 0, 61) + "\0".repeat(122), "WRONG1@2 END");
        Tapes.reads("[ )", "[@0 WRONG3@2 END");
        Tapes.reads("[ >", "[@0 WRONG3@2 END");
        Tapes.reads("[ }", "[@0 WRONG3@2 END");
        Tapes.reads("[ 16#100000000", "[@0 WRONG5@2 END");
        Tapes.reads("[ 1e309", "[@0 WRONG5@2 END");
        Tapes.reads("[ " + Tapes.bytes(138, 127, 128, 0, 0), "[@0 WRONG5@2 END");
        Tapes.reads("[ " + Tapes.bytes(149, 48, 0, 2, 0, 0, 0, 0, 127, 128, 0, 0), "[@0 WRONG5@2 END");
        Tapes.reads("[ (a", "[@0 WRONG6@2 END");
        Tapes.reads("[ <4", "[@0 WRONG6@2 END");
        Tapes.reads("[ <~z~", "[@0 WRONG6@2 END");
        Tapes.reads("[ " + Tapes.bytes(132, 1), "[@0 WRONG6@2 END");
    }

    private static void placesOfWrongBytes() {
        Checks.about("for 2 and 4 the wrong byte's");
        Tapes.reads("[ <41g", "[@0 WRONG2@5 END");
        Tapes.reads("[ <~!!z", "[@0 WRONG2@6 END");
        Tapes.reads("[ <~uuuuu", "[@0 WRONG2@8 END");
        Tapes.reads("[ <~!~", "[@0 WRONG2@5 END");
        Tapes.reads("[ <~s8~", "[@0 WRONG2@6 END");
        Tapes.reads("[ <~~x", "[@0 WRONG2@5 END");
        Tapes.reads("[ " + Tapes.bytes(128), "[@0 WRONG4@2 END");
        Tapes.reads("[ " + Tapes.bytes(137, 48), "[@0 WRONG4@3 END");
        Tapes.reads("[ " + Tapes.bytes(141, 2), "[@0 WRONG4@3 END");
        Tapes.reads("[ " + Tapes.bytes(149, 49), "[@0 WRONG4@3 END");
    }

    private static void placesOfBraces() {
        Checks.about("for a { its own");
        Tapes.reads("[ {[[", "[@0 {@2 [@3 [@4 WRONG6@2 END");
        Tapes.reads("[ { {} [", "[@0 {@2 {@4 }@5 [@7 WRONG6@2 END");
        TokenReader deep = Tapes.fed("{".repeat(20) + "[ \n{ [");
        for (int i = 0; i < 21; i++) {
            deep.next();
        }
        Checks.same("too deep", -2, deep.next());
        Checks.same("its own place", 23, deep.place());
        deep.end();
        Checks.same("a [ behind it", 7, deep.next());
        Checks.same("without }", -7, deep.next());
        Checks.same("the innermost that is open", 19, deep.place());
        TokenReader again = Tapes.fed("{}{}  {(a)");
        again.end();
        for (int i = 0; i < 6; i++) {
            again.next();
        }
        Checks.same("without }", -7, again.next());
        Checks.same("not that of one that is closed", 6, again.place());
    }
}
