/** The Terms of BYTES and the END, of WHITE, OWN, PLAIN and WORD, and of NEXT. */
public final class BytesTest {
    /** What "x" and each OWN byte and "y " read behind the NAME x. */
    private static final String[] BEHIND_OWNS = {
        "WRONG6@1 END", "WRONG3@1 NAME(y)@2 END", "WRONG2@2 END", "WRONG3@1 NAME(y)@2 END",
        "[@1 NAME(y)@2 END", "]@1 NAME(y)@2 END", "{@1 NAME(y)@2 WRONG6@1 END", "WRONG3@1 NAME(y)@2 END",
        "LITERAL(y)@1 END", "END"
    };

    public static void main(String[] args) {
        everyByte();
        threeThousand();
        roomIsNotGivenBack();
        noneBehindTheEnd();
        perhapsTheEnd();
        white();
        comments();
        commentsWithoutEnd();
        own();
        plain();
        words();
        wholeWords();
        kindsAndPlaces();
        notKnownYet();
        nothingIsRead();
        knownWithTheLastByte();
        behindAll();
        Checks.done();
    }

    private static void everyByte() {
        Checks.about("BYTES (0 .. 255, however told)");
        TokenReader all = new TokenReader();
        for (int b = 0; b < 256; b++) {
            Checks.same("add " + b, b + 1, all.add((byte) b));
        }
        for (int b = 0; b < 256; b++) {
            Checks.same("octet " + b, (byte) b, all.octet(b));
            TokenReader one = Tapes.fed(Tapes.bytes(142, 1, b));
            Checks.same("a STRING of " + b, 6, one.next());
            Checks.same("sign of " + b, b, one.sign(0));
        }
    }

    private static TokenReader filled(int count, String last) {
        TokenReader reader = Tapes.fed(" ".repeat(count - last.length()));
        Tapes.feed(reader, last);
        return reader;
    }

    private static void threeThousand() {
        Checks.about("come one behind the other, 3000 at most, numbered from 0");
        TokenReader reader = filled(2999, "");
        Checks.same("byte 3000 comes", 3000, reader.add((byte) 'a'));
        Checks.fails("byte 3001", UnsupportedOperationException.class, () -> reader.add((byte) ' '));
        Checks.fails("byte 3001 again", UnsupportedOperationException.class, () -> reader.add((byte) ' '));
        Checks.same("what was refused ends no WORD", 0, reader.next());
        Checks.same("byte 2999", (byte) 'a', reader.octet(2999));
        Checks.fails("byte 3000", ArrayIndexOutOfBoundsException.class, () -> reader.octet(3000));
        Checks.same("end", 3000, reader.end());
        Checks.same("the last byte is read", "NAME(a)@2999 END", Tapes.rest(reader));
        TokenReader first = Tapes.fed("[]");
        first.next();
        Checks.same("the first byte's place", 0, first.place());
        Checks.same("the first byte", (byte) '[', first.octet(0));
        first.next();
        Checks.same("the second byte's place", 1, first.place());
    }

    private static void roomIsNotGivenBack() {
        Checks.about("3000 at most");
        TokenReader reader = new TokenReader();
        for (int i = 1; i <= 3000; i++) {
            Checks.same("add " + i, i, reader.add((byte) ']'));
            Checks.same("next " + i, 8, reader.next());
            Checks.same("place " + i, i - 1, reader.place());
        }
        Checks.fails("all are read", UnsupportedOperationException.class, () -> reader.add((byte) ']'));
        Checks.same("next", 0, reader.next());
        Checks.same("end", 0, reader.end());
        reader.clear();
        for (int i = 1; i <= 3000; i++) {
            Checks.same("add behind clear " + i, i, reader.add((byte) ' '));
        }
        Checks.fails("full again", UnsupportedOperationException.class, () -> reader.add((byte) ' '));
    }

    private static void noneBehindTheEnd() {
        Checks.about("then perhaps the END, behind which none come");
        TokenReader reader = Tapes.fed("ab");
        reader.end();
        Checks.fails("a byte behind the END", IllegalStateException.class, () -> reader.add((byte) 'c'));
        Checks.fails("it did not come", ArrayIndexOutOfBoundsException.class, () -> reader.octet(2));
        Checks.same("the END stays told", -1, reader.end());
        Checks.same("what is read", "NAME(ab)@0 END", Tapes.rest(reader));
        Checks.fails("a byte behind 20", IllegalStateException.class, () -> reader.add((byte) ' '));
        TokenReader empty = new TokenReader();
        empty.end();
        Checks.fails("a byte behind the END of none", IllegalStateException.class, () -> empty.add((byte) ' '));
        Checks.same("still none", 20, empty.next());
    }

    private static void perhapsTheEnd() {
        Checks.about("then perhaps the END");
        TokenReader reader = Tapes.fed("ab ");
        Checks.same("without END", 3, reader.next());
        Checks.same("no END yet", 0, reader.next());
        Checks.same("more may come", 4, reader.add((byte) ']'));
        Checks.same("and is read", 8, reader.next());
        Checks.same("the END", 0, reader.end());
        Checks.same("now it is the END", 20, reader.next());
    }

    private static void white() {
        Checks.about("WHITE are 0, 9, 10, 12, 13, 32");
        for (int b = 0; b < 256; b++) {
            String byteAhead = Tapes.bytes(b);
            if (Tapes.isWhite(b)) {
                Tapes.reads(byteAhead + "x", "NAME(x)@1 END");
                Tapes.reads("x" + byteAhead + "y", "NAME(x)@0 NAME(y)@2 END");
                Tapes.reads(byteAhead, "END");
                Tapes.reads(byteAhead.repeat(3) + "[" + byteAhead + "]", "[@3 ]@5 END");
            } else {
                Checks.same("not passed: " + b, false, Tapes.first(byteAhead + "x").equals("NAME(x)@1"));
            }
        }
        Tapes.reads("", "END");
        Tapes.reads("\0\t\n\f\r ", "END");
        Tapes.reads("a\0b\tc\nd\fe\rf g",
                "NAME(a)@0 NAME(b)@2 NAME(c)@4 NAME(d)@6 NAME(e)@8 NAME(f)@10 NAME(g)@12 END");
        Tapes.reads("\u0001\b\u000b\u000e\u001f!\u007f\u00a0\u00ff", "NAME($01$08$0b$0e$1f!$7f$a0$ff)@0 END");
    }

    private static void comments() {
        Checks.about("and a comment: % and all behind it, before a byte 10, 12 or 13");
        for (int b = 0; b < 256; b++) {
            boolean ends = b == 10 || b == 12 || b == 13;
            Tapes.reads("%" + Tapes.bytes(b) + "7 \n8", (ends ? "NUMBER(7)@2 " : "") + "NUMBER(8)@5 END");
        }
        Tapes.reads("%a\nb%c\fd%e\re%f\0 \tg", "NAME(b)@3 NAME(d)@7 NAME(e)@11 END");
        Tapes.reads("%%a\n%\r%\f1", "NUMBER(1)@8 END");
        Tapes.reads("x%y\nz", "NAME(x)@0 NAME(z)@4 END");
        Tapes.reads("%(\n)", "WRONG3@3 END");
        Tapes.reads("%\\\n1", "NUMBER(1)@3 END");
        Tapes.reads("[%\n]", "[@0 ]@3 END");
        Tapes.reads("/%a\n//%b", "LITERAL()@0 INSTANT()@4 END");
        Tapes.reads("(%)%)", "STRING(%)@0 END");
    }

    private static void commentsWithoutEnd() {
        Checks.about("% and all behind it");
        Tapes.reads("%", "END");
        Tapes.reads("% all ( of < it", "END");
        Tapes.reads("[%" + "a".repeat(500), "[@0 END");
        Tapes.readsOpen("%", "MORE");
        Tapes.readsOpen(" % a", "MORE");
        Tapes.readsOpen("%\n", "MORE");
        TokenReader reader = Tapes.fed("% a");
        Checks.same("in a comment", 0, reader.next());
        Tapes.feed(reader, "b 7\n8 ");
        Checks.same("the comment goes on", 1, reader.next());
        Checks.same("behind it", 8L, reader.whole());
        Checks.same("its place", 7, reader.place());
    }

    private static void own() {
        Checks.about("OWN are ( ) < > [ ] { } / %");
        for (int i = 0; i < Tapes.OWNS.length(); i++) {
            Tapes.reads("x" + Tapes.OWNS.charAt(i) + "y ", "NAME(x)@0 " + BEHIND_OWNS[i]);
        }
        Tapes.reads("a(b)c<41>d[e]f{g}h/i//j<<k>>l>m)n%o",
                "NAME(a)@0 STRING(b)@1 NAME(c)@4 STRING(A)@5 NAME(d)@9 [@10 NAME(e)@11 ]@12 NAME(f)@13 "
                + "{@14 NAME(g)@15 }@16 NAME(h)@17 LITERAL(i)@18 INSTANT(j)@20 <<@23 NAME(k)@25 >>@26 "
                + "NAME(l)@28 WRONG3@29 NAME(m)@30 WRONG3@31 NAME(n)@32 END");
    }

    private static void plain() {
        Checks.about("PLAIN all others below 128, and above 159");
        for (int b = 0; b < 256; b++) {
            String word = "x" + Tapes.bytes(b) + "y";
            if (Tapes.isPlain(b)) {
                Tapes.reads(word, "NAME(" + Tapes.shown(word) + ")@0 END");
                Tapes.reads("/" + word, "LITERAL(" + Tapes.shown(word) + ")@0 END");
            } else {
                Checks.same("not PLAIN: " + b, "NAME(x)@0", Tapes.first(word));
                Checks.same("not PLAIN behind /: " + b, "LITERAL(x)@0", Tapes.first("/" + word));
            }
        }
        Tapes.reads("x\u007f \u00a0 \u00ff", "NAME(x$7f)@0 NAME($a0)@3 NAME($ff)@5 END");
        Tapes.reads("x\u0080", "NAME(x)@0 WRONG4@1 END");
        Tapes.reads("x\u009f", "NAME(x)@0 WRONG4@1 END");
    }

    private static void words() {
        Checks.about("A WORD are PLAIN bytes, as many as follow");
        for (int length = 1; length <= 100; length++) {
            String word = "a".repeat(length - 1) + "z";
            Tapes.reads(word + " b", "NAME(" + word + ")@0 NAME(b)@" + (length + 1) + " END");
        }
        Tapes.reads("5\u0088\u0005", "NUMBER(5)@0 NUMBER(5)@1 END");
    }

    private static void wholeWords() {
        Checks.about("it is whole when another byte follows, or at the END");
        for (int b = 0; b < 256; b++) {
            TokenReader reader = Tapes.fed("ab" + Tapes.bytes(b));
            Checks.same("followed by " + b, Tapes.isPlain(b) ? 0 : 3, reader.next());
            Checks.same("how many of it are whole, " + b, Tapes.isPlain(b) ? 0L : 2L, reader.whole());
        }
        String[] words = {"a", "7", "-7", "1.5", "16#f", "1e5", "+", "/a", "//a", "/", "//"};
        for (String word : words) {
            Tapes.readsOpen(word, "MORE");
            Checks.same("at the END " + word, Tapes.first(word + " "), Tapes.first(word));
        }
        Tapes.reads("1 12", "NUMBER(1)@0 NUMBER(12)@2 END");
    }

    private static final String[] SAMPLES = {
        "12 ", "1.5 ", "ab ", "/ab ", "//ab ", "(a)", "[", "]", "{", "}", "<<", ">>",
        Tapes.bytes(141, 1), Tapes.bytes(145, 7), Tapes.bytes(146, 7), Tapes.bytes(149, 32, 0, 0)
    };

    private static void kindsAndPlaces() {
        Checks.about("NEXT goes over what is WHITE and reads a TOKEN: its kind is the answer, "
                + "its place the number of its first byte.");
        String[] ahead = {"", " ", "\n\t", "%c\n", "\0\f\r %x%\f"};
        for (String white : ahead) {
            for (int kind = 1; kind <= SAMPLES.length; kind++) {
                TokenReader reader = Tapes.fed("{" + white + SAMPLES[kind - 1]);
                reader.next();
                Checks.same("kind behind " + Tapes.shown(white), kind, reader.next());
                Checks.same("place of kind " + kind, 1 + white.length(), reader.place());
            }
            for (String more : new String[] {"<41>", "<~z~>", Tapes.bytes(142, 0)}) {
                TokenReader reader = Tapes.fed(white + more);
                Checks.same("a STRING", 6, reader.next());
                Checks.same("its place", white.length(), reader.place());
            }
        }
    }

    private static final String[] NOT_WHOLE = {
        "", " ", "\n", "%", "% a", "a", "12", "-", "12.", "1e", "16#", "16#f", "/", "/a", "//", "//a",
        "(", "(a", "(a\\", "(a\\)", "(a\\1", "(a\\12", "(\r", "(a(b)", "<", "<4", "<41", "< ",
        "<~", "<~!", "<~!!", "<~!!!!!", "<~z", "<~~", "<~z~", "<~!! ", ">",
        Tapes.bytes(132, 1, 2, 3), Tapes.bytes(133), Tapes.bytes(134, 1), Tapes.bytes(135), Tapes.bytes(136),
        Tapes.bytes(137), Tapes.bytes(137, 0, 1, 2, 3), Tapes.bytes(137, 32, 1), Tapes.bytes(138, 127, 128, 0),
        Tapes.bytes(139, 0), Tapes.bytes(141), Tapes.bytes(142), Tapes.bytes(142, 2, 'a'), Tapes.bytes(143, 0),
        Tapes.bytes(144, 1, 0), Tapes.bytes(145), Tapes.bytes(146), Tapes.bytes(149), Tapes.bytes(149, 0),
        Tapes.bytes(149, 0, 0), Tapes.bytes(149, 32, 0, 1, 0), Tapes.bytes(149, 176, 1, 0, 0, 0, 128)
    };

    private static void notKnownYet() {
        Checks.about("If it is not known yet, without more bytes, what it is or where it ends, the answer is 0");
        for (String part : NOT_WHOLE) {
            TokenReader reader = Tapes.fed(part);
            Checks.same("not known yet: " + Tapes.shown(part), 0, reader.next());
            Checks.same("nor then: " + Tapes.shown(part), 0, reader.next());
        }
    }

    private static void nothingIsRead() {
        Checks.about("and nothing is read (not what is WHITE, either)");
        for (String part : NOT_WHOLE) {
            TokenReader alone = Tapes.fed(" %c\n\f" + part);
            alone.next();
            Checks.same("no place: " + Tapes.shown(part), 0, alone.place());
            Checks.same("all is unread: " + Tapes.shown(part), 5 + part.length(), alone.end());
            TokenReader behind = Tapes.fed(" 16#f{ \t" + part);
            Checks.same("a NUMBER", 1, behind.next());
            Checks.same("a {", 9, behind.next());
            Checks.same("not known yet", 0, behind.next());
            Checks.same("the place stays: " + Tapes.shown(part), 5, behind.place());
            Checks.same("BASE stays: " + Tapes.shown(part), 16, behind.base());
            Checks.same("DEPTH stays: " + Tapes.shown(part), 1, behind.depth());
            Checks.same("the rest is unread: " + Tapes.shown(part), 2 + part.length(), behind.end());
        }
    }

    private static void knownWithTheLastByte() {
        Checks.about("without more bytes, what it is or where it ends");
        Tapes.endsWithLast("ab ", "NAME(ab)@0 MORE");
        Tapes.endsWithLast("%c\n ab(", "NAME(ab)@4 MORE");
        Tapes.endsWithLast("-12\u0080", "NUMBER(-12)@0 WRONG4@3 MORE");
        Tapes.endsWithLast("/a ", "LITERAL(a)@0 MORE");
        Tapes.endsWithLast("/(", "LITERAL()@0 MORE");
        Tapes.endsWithLast("// ", "INSTANT()@0 MORE");
        Tapes.endsWithLast("///", "INSTANT()@0 MORE");
        Tapes.endsWithLast("(a(b)\\)\\12)", "STRING(a(b))$0a)@0 MORE");
        Tapes.endsWithLast("<4 1>", "STRING(A)@0 MORE");
        Tapes.endsWithLast("<~z !!~>", "STRING($00$00$00$00$00)@0 MORE");
        Tapes.endsWithLast("<<", "<<@0 MORE");
        Tapes.endsWithLast(">>", ">>@0 MORE");
        Tapes.endsWithLast("> ", "WRONG3@0 MORE");
        Tapes.endsWithLast("<4g", "WRONG2@2 MORE");
        Tapes.endsWithLast("<~!~", "WRONG2@3 MORE");
        Tapes.endsWithLast("  [", "[@2 MORE");
        Tapes.endsWithLast("]", "]@0 MORE");
        Tapes.endsWithLast("\n{", "{@1 MORE");
        Tapes.endsWithLast("}", "WRONG3@0 MORE");
        Tapes.endsWithLast(")", "WRONG3@0 MORE");
    }

    private static void behindAll() {
        Checks.about("At the END, behind all TOKENS, the answer is 20.");
        String[] nothing = {"", " ", "%", "% a", "\n%\n\f"};
        for (String bytes : nothing) {
            TokenReader reader = Tapes.fed(bytes);
            Checks.same("no END yet: " + Tapes.shown(bytes), 0, reader.next());
            reader.end();
            for (int k = 0; k < 3; k++) {
                Checks.same("at the END: " + Tapes.shown(bytes), 20, reader.next());
                Checks.same("its place: " + Tapes.shown(bytes), 0, reader.place());
            }
        }
        TokenReader reader = Tapes.fed(" ab  ");
        reader.end();
        int[] answers = {3, 20, 20};
        for (int answer : answers) {
            Checks.same("at the END", answer, reader.next());
            Checks.same("the latest TOKEN's place", 1, reader.place());
            Checks.same("the latest TOKEN", 2L, reader.whole());
        }
        Tapes.reads(")", "WRONG3@0 END");
        Tapes.reads("[", "[@0 END");
        Tapes.reads("<<", "<<@0 END");
    }
}
