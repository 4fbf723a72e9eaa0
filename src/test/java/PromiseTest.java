import java.lang.reflect.Member;
import java.lang.reflect.Modifier;
import java.util.List;
import java.util.TreeSet;

/** The public face, and promises 1 to 14, one by one. */
public final class PromiseTest {
    private static final String NUMBERS = Tapes.bytes(149, 32, 0, 2, 0, 5, 0, 6);
    private static final String REALS = Tapes.bytes(149, 33, 0, 1, 0, 5);
    /** One TOKEN of each kind; that of kind k stands at k - 1. */
    private static final String[] KINDS = {" 12 ", " 2.5 ", " abc ", "/abc ", "//abc ", "(abc)", "[", "]", "{", "}", "<<", ">>",
        Tapes.bytes(141, 1), Tapes.bytes(145, 200), Tapes.bytes(146, 201), NUMBERS};
    private static final String[] WRONGS = {"a".repeat(101) + " ", "/" + "a".repeat(101) + " ", "<41g", "<~!!z", "<~s8~", ") ", "> ", "} ",
        "16#100000000 ", "1e999 ", Tapes.bytes(137, 60), Tapes.bytes(138, 127, 128, 0, 0), Tapes.bytes(141, 2),
        Tapes.bytes(128), Tapes.bytes(149, 48, 0, 1, 127, 128, 0, 0), Tapes.bytes(149, 49), "(" + "b".repeat(401) + ")",
        Tapes.bytes(143, 1, 145) + "b".repeat(401), Tapes.bytes(149, 32, 0, 61) + "a".repeat(122)};
    private static final String[] PARTS = {"(abcdef", "<4142", "<~!!!!!", "12", "1.5", "16#f", "ab", "/ab", "//", ">", "<", "% (", "  ",
        Tapes.bytes(132, 1, 2, 3), Tapes.bytes(142, 5, 'a'), Tapes.bytes(149, 32, 0, 2, 1, 2, 3), Tapes.bytes(137, 0, 1)};
    private static final int[] FAR = {Integer.MIN_VALUE, Integer.MIN_VALUE + 1, -3000, -1, 60, 400, 3000, Integer.MAX_VALUE};

    public static void main(String[] args) {
        face();
        none();
        newObject();
        addCounts();
        addBehindTheEnd();
        addToThreeThousand();
        refusedAddsChangeNothing();
        endTells();
        endAgain();
        nextAnswers();
        wrongsLeaveTheLatest();
        partsLeaveTheLatest();
        theEndLeavesTheLatest();
        rowsStay();
        wholeValues();
        wholeCounts();
        wholeOfOthers();
        realOfKinds();
        realOfOthers();
        signs();
        signsPastTheEnd();
        signsOfOthers();
        binaryOfNumbers();
        binaryOfReals();
        binaryOutside();
        binaryOfOthers();
        staleRows();
        binaryReals();
        binaryRealsOutside();
        refusedBinaryChangesNothing();
        places();
        placesOfAllWrongs();
        bases();
        depths();
        octets();
        octetsOutside();
        clearForgets();
        clearOfAFullOne();
        Checks.done();
    }

    private static void face() {
        Checks.about("public final class TokenReader {");
        String state = " throws java.lang.IllegalStateException,java.lang.UnsupportedOperationException";
        String outside = " throws java.lang.IndexOutOfBoundsException";
        String[] due = {"public static final int TokenReader.NONE", "public TokenReader()", "public int TokenReader.add(byte)" + state,
            "public int TokenReader.end()", "public int TokenReader.next()", "public long TokenReader.whole()",
            "public double TokenReader.real()", "public int TokenReader.sign(int)", "public int TokenReader.binary(int,int)" + outside,
            "public double TokenReader.binaryReal(int)" + outside, "public int TokenReader.place()", "public int TokenReader.base()",
            "public int TokenReader.depth()", "public byte TokenReader.octet(int) throws java.lang.ArrayIndexOutOfBoundsException",
            "public void TokenReader.clear()"};
        TreeSet<String> members = new TreeSet<>();
        open(members, TokenReader.class.getDeclaredFields());
        open(members, TokenReader.class.getDeclaredConstructors());
        open(members, TokenReader.class.getDeclaredMethods());
        Checks.same("all that is not private", new TreeSet<>(List.of(due)), members);
        Checks.same("the class", "public final", Modifier.toString(TokenReader.class.getModifiers()));
    }

    private static void open(TreeSet<String> members, Member[] all) {
        for (Member member : all) {
            boolean made = member.isSynthetic();
            if (!made && !Modifier.isPrivate(member.getModifiers())) {
                members.add(member.toString());
            }
        }
    }

    private static void none() {
        Checks.about("public static final int NONE = -1;");
        Checks.same("NONE", -1, TokenReader.NONE);
    }

    private static void isAsNew(String what, TokenReader reader) {
        Checks.same(what + ": next", 0, reader.next());
        Checks.same(what + ": whole", 0L, reader.whole());
        Checks.same(what + ": real", 0.0, reader.real());
        Checks.same(what + ": place", 0, reader.place());
        Checks.same(what + ": base", 10, reader.base());
        Checks.same(what + ": depth", 0, reader.depth());
        noSigns(what, reader);
        noRow(what, reader);
        Checks.fails(what + ": octet", ArrayIndexOutOfBoundsException.class, () -> reader.octet(0));
        Checks.same(what + ": end", 0, reader.end());
        Checks.same(what + ": next at the END", 20, reader.next());
    }

    private static void noSigns(String what, TokenReader reader) {
        for (int i = -1; i < 5; i++) {
            Checks.same(what + ": sign " + i, -1, reader.sign(i));
        }
        for (int i : FAR) {
            Checks.same(what + ": sign " + i, -1, reader.sign(i));
        }
    }

    private static void outside(String what, TokenReader reader, int i, int which) {
        Checks.fails(what + ": binary " + i + " " + which, IndexOutOfBoundsException.class, () -> reader.binary(i, which));
    }

    private static void noReal(String what, TokenReader reader, int i) {
        Checks.fails(what + ": binaryReal " + i, IndexOutOfBoundsException.class, () -> reader.binaryReal(i));
    }

    private static void noRow(String what, TokenReader reader) {
        for (int i = 0; i < 3; i++) {
            outside(what, reader, i, 0);
            outside(what, reader, i, 1);
            noReal(what, reader, i);
        }
    }

    /** All that can be asked for, in one text. */
    private static String all(TokenReader reader, int bytes, int numbers) {
        StringBuilder told = new StringBuilder();
        told.append(reader.whole()).append(' ').append(reader.real()).append(' ').append(reader.place()).append(' ');
        told.append(reader.base()).append(' ').append(reader.depth());
        for (int i = 0; i < 5; i++) {
            told.append(' ').append(reader.sign(i));
        }
        for (int i = 0; i < bytes; i++) {
            told.append(' ').append(reader.octet(i));
        }
        for (int i = 0; i < numbers; i++) {
            told.append(' ').append(reader.binary(i, 0)).append(' ').append(reader.binary(i, 1)).append(' ').append(reader.binaryReal(i));
        }
        return told.toString();
    }

    private static void newObject() {
        Checks.about("Nothing has come; no TOKEN.");
        isAsNew("a new object", new TokenReader());
        TokenReader other = Tapes.fed("16#f {");
        Checks.same("another", 1, other.next());
        isAsNew("a new object beside another", new TokenReader());
        Checks.same("the other has its own", 9, other.next());
        Checks.same("and its own BASE", 16, other.base());
        isAsNew("a new object beside an open {", new TokenReader());
    }

    private static void addCounts() {
        Checks.about("A byte comes: how many there are then.");
        TokenReader reader = new TokenReader();
        Checks.same("first add", 1, reader.add((byte) 49));
        Checks.same("second add", 2, reader.add((byte) -1));
        Checks.same("third add", 3, reader.add((byte) 32));
        Checks.same("next", 3, reader.next());
        Checks.same("add counts what is read too", 4, reader.add((byte) 0));
        Checks.same("next", 0, reader.next());
        Checks.same("add of the least byte", 5, reader.add((byte) -128));
        Checks.same("add of the greatest byte", 6, reader.add((byte) 127));
    }

    private static void addBehindTheEnd() {
        Checks.about("IllegalStateException behind the END;");
        TokenReader ended = Tapes.fed("ab");
        Checks.same("ahead of it", 3, ended.add((byte) 'c'));
        ended.end();
        Checks.fails("add behind the END", IllegalStateException.class, () -> ended.add((byte) 1));
        Checks.fails("add again", IllegalStateException.class, () -> ended.add((byte) 32));
        Checks.same("the END again", -1, ended.end());
        Checks.fails("add behind it", IllegalStateException.class, () -> ended.add((byte) 1));
        ended.next();
        Checks.fails("add behind what was read", IllegalStateException.class, () -> ended.add((byte) 1));
        ended.next();
        Checks.fails("add behind 20", IllegalStateException.class, () -> ended.add((byte) 1));
        ended.clear();
        Checks.same("add behind clear", 1, ended.add((byte) 1));
        TokenReader empty = new TokenReader();
        empty.end();
        Checks.fails("add to none", IllegalStateException.class, () -> empty.add((byte) 1));
    }

    private static void addToThreeThousand() {
        Checks.about("UnsupportedOperationException when there were 3000.");
        TokenReader full = new TokenReader();
        for (int i = 1; i <= 3000; i++) {
            Checks.same("add " + i, i, full.add((byte) 32));
        }
        Checks.fails("add to 3000", UnsupportedOperationException.class, () -> full.add((byte) 1));
        Checks.fails("add to 3000 again", UnsupportedOperationException.class, () -> full.add((byte) 1));
        Checks.same("the last byte", (byte) 32, full.octet(2999));
        Checks.fails("byte 3000", ArrayIndexOutOfBoundsException.class, () -> full.octet(3000));
        Checks.same("end of 3000", 3000, full.end());
        Checks.fails("add to 3000 behind the END", IllegalStateException.class, () -> full.add((byte) 1));
        Checks.same("next", 20, full.next());
    }

    private static void refusedAddsChangeNothing() {
        Checks.about("behind which none come");
        TokenReader ended = Tapes.fed("{16#f(xyz) 7");
        for (int i = 0; i < 3; i++) {
            ended.next();
        }
        ended.end();
        String before = all(ended, 12, 0);
        for (int b = 0; b < 256; b++) {
            byte refused = (byte) b;
            Checks.fails("add " + b, IllegalStateException.class, () -> ended.add(refused));
        }
        Checks.same("all stays", before, all(ended, 12, 0));
        Checks.fails("no byte more", ArrayIndexOutOfBoundsException.class, () -> ended.octet(12));
        Checks.same("what follows", "NUMBER(7)@11 WRONG6@0 END", Tapes.rest(ended));
        TokenReader full = Tapes.fed(" ".repeat(2988) + "{16#f(xyz) 7");
        for (int i = 0; i < 3; i++) {
            full.next();
        }
        String filled = all(full, 3000, 0);
        Checks.fails("a byte too many", UnsupportedOperationException.class, () -> full.add((byte) ' '));
        Checks.same("all stays", filled, all(full, 3000, 0));
        Checks.same("7 is not whole", 0, full.next());
        Checks.same("not read yet", 2, full.end());
        Checks.same("what follows", "NUMBER(7)@2999 WRONG6@2988 END", Tapes.rest(full));
    }

    private static void endTells() {
        Checks.about("The END: how many bytes were not read yet;");
        TokenReader reader = Tapes.fed("12 34 ");
        reader.next();
        Checks.same("one NUMBER is read", 4, reader.end());
        Checks.same("of none", 0, new TokenReader().end());
        Checks.same("of one", 1, Tapes.fed("a").end());
        Checks.same("of WHITE that is not read", 3, Tapes.fed("  %").end());
        TokenReader all = Tapes.fed("[]");
        all.next();
        all.next();
        Checks.same("of none any more", 0, all.end());
        TokenReader waiting = Tapes.fed("  (a");
        waiting.next();
        Checks.same("what 0 did not read", 4, waiting.end());
        endAfter("a WORD", "ab ", 1);
        endAfter("an empty LITERAL", "/ ", 1);
        endAfter("a STRING", " (a) ", 1);
        endAfter("a STRING < >", " <4> ", 1);
        endAfter("a STRING <~ ~>", " <~z~> ", 1);
        endAfter("<<", "<<<", 1);
        endAfter(">>", ">>>", 1);
        endAfter("[", "[[", 1);
        endAfter("a binary NUMBER", Tapes.bytes(132, 1, 2, 3, 4, 5), 1);
        endAfter("a binary STRING", Tapes.bytes(142, 1, 2, 3, 4), 2);
        endAfter("a ROW", NUMBERS + "ab", 2);
        endAfter("all up to the wrong byte is read", "<4g>", 1);
        endAfter("wrong r", Tapes.bytes(137, 48, 1, 2), 2);
        endAfter("too long", "a".repeat(101) + " b", 2);
        endAfter("too great", "16#100000000 b", 2);
        endAfter(") alone", ") b", 2);
        endAfter("> alone", ">b", 1);
        endAfter("} alone", " }  ", 2);
    }

    private static void endAfter(String what, String bytes, int unread) {
        TokenReader reader = Tapes.fed(bytes);
        reader.next();
        Checks.same(what + ": end", unread, reader.end());
    }

    private static void endAgain() {
        Checks.about("NONE when it was told already.");
        TokenReader reader = Tapes.fed("12 34 ");
        reader.end();
        Checks.same("end again", -1, reader.end());
        reader.next();
        Checks.same("end after more was read", -1, reader.end());
        Checks.same("what is left", "NUMBER(34)@3 END", Tapes.rest(reader));
        Checks.same("end behind all", -1, reader.end());
        reader.clear();
        Checks.same("end of what was cleared", 0, reader.end());
        Checks.same("again", -1, reader.end());
    }

    private static void nextAnswers() {
        Checks.about("The next TOKEN: its kind; 0, 20 and below 0 as told");
        for (int kind = 1; kind <= 16; kind++) {
            TokenReader reader = Tapes.fed("{" + KINDS[kind - 1]);
            reader.next();
            Checks.same("kind", kind, reader.next());
        }
        Tapes.reads("/ab/ //cd /% x\n[<<>>]{}",
                "LITERAL(ab)@0 LITERAL()@3 INSTANT(cd)@5 LITERAL()@10 [@15 <<@16 >>@18 ]@20 {@21 }@22 END");
        Tapes.readsOpen("[]{})", "[@0 ]@1 {@2 }@3 WRONG3@4 MORE");
        TokenReader reader = Tapes.fed("ab");
        Checks.same("not known yet", 0, reader.next());
        reader.end();
        Checks.same("known at the END", 3, reader.next());
        Checks.same("behind all", 20, reader.next());
        Checks.same("behind all again", 20, reader.next());
    }

    private static void staysXyz(String what, TokenReader reader) {
        Checks.same(what + ": whole", 3L, reader.whole());
        Checks.same(what + ": text", "xyz", Tapes.text(reader));
        Checks.same(what + ": past its end", -1, reader.sign(3));
        Checks.same(what + ": real", 0.0, reader.real());
        noRow(what, reader);
    }

    private static void wrongsLeaveTheLatest() {
        Checks.about("(the latest TOKEN stays then; below 0 but for its place)");
        for (String wrong : WRONGS) {
            TokenReader reader = Tapes.fed("(xyz)" + wrong);
            reader.next();
            Checks.same("is WRONG", true, reader.next() < 0);
            staysXyz("behind " + wrong, reader);
            Checks.same("the place changed behind " + wrong, true, reader.place() >= 5);
            Checks.same("not yet", 0, reader.next());
            staysXyz("behind 0 and " + wrong, reader);
            TokenReader real = Tapes.fed("2.5 " + wrong);
            real.next();
            real.next();
            Checks.same("a REAL stays behind " + wrong, 2.5, real.real());
            Checks.same("a REAL is no text behind " + wrong, -1, real.sign(0));
        }
        String[] endless = {"(a", "<4", "<~z", Tapes.bytes(132, 1), Tapes.bytes(142, 3, 'a')};
        for (String part : endless) {
            TokenReader reader = Tapes.fed("(xyz)" + part);
            reader.next();
            reader.end();
            Checks.same("not whole", -7, reader.next());
            staysXyz("behind what is not whole", reader);
            Checks.same("its place", 5, reader.place());
        }
    }

    private static void partsLeaveTheLatest() {
        Checks.about("the latest TOKEN stays then");
        for (String part : PARTS) {
            TokenReader reader = Tapes.fed(" (xyz) " + part);
            reader.next();
            Checks.same("not yet " + part, 0, reader.next());
            staysXyz("behind " + part, reader);
            Checks.same("the place stays behind " + part, 1, reader.place());
            Checks.same("BASE stays behind " + part, 10, reader.base());
            Checks.same("not yet again " + part, 0, reader.next());
            staysXyz("again behind " + part, reader);
        }
    }

    private static void theEndLeavesTheLatest() {
        Checks.about("0, 20 and below 0 as told (the latest TOKEN stays then");
        TokenReader reader = Tapes.fed("  (xyz)  ");
        reader.next();
        reader.end();
        Checks.same("behind all", 20, reader.next());
        staysXyz("behind all", reader);
        Checks.same("the place stays behind all", 2, reader.place());
        TokenReader brace = Tapes.fed(" {(xyz)");
        brace.next();
        brace.next();
        brace.end();
        Checks.same("{ without }", -7, brace.next());
        staysXyz("behind { without }", brace);
        Checks.same("but for the place", 1, brace.place());
        Checks.same("behind all", 20, brace.next());
        staysXyz("behind 20", brace);
        Checks.same("the place stays", 1, brace.place());
    }

    private static void rowsStay() {
        Checks.about("the latest TOKEN stays then; below 0 but for its place");
        for (String wrong : WRONGS) {
            TokenReader reader = Tapes.fed(NUMBERS + wrong);
            Checks.same("a ROW", 16, reader.next());
            Checks.same("something WRONG", true, reader.next() < 0);
            Checks.same("how many stay", 2L, reader.whole());
            Checks.same("NUMBERS stay", 0, reader.binary(0, 0));
            Checks.same("number 0 stays", 5, reader.binary(0, 1));
            Checks.same("number 1 stays", 6, reader.binary(1, 1));
            Checks.same("no REAL", 0.0, reader.binaryReal(0));
            outside("as many stay", reader, 2, 1);
            Checks.same("the place does not", true, reader.place() >= 8);
        }
        TokenReader reals = Tapes.fed(REALS + Tapes.bytes(149, 48, 0, 2, 63, 128, 0, 0, 127, 128, 0, 0));
        reals.next();
        Checks.same("a wrong ROW", -6, reals.next());
        Checks.same("its first number does not show", 2.5, reals.binaryReal(0));
        Checks.same("how many stay", 1L, reals.whole());
    }

    /** Reads the last TOKEN of the bytes, behind others whose values could be left over. */
    private static TokenReader latest(int kind, String bytes) {
        TokenReader reader = Tapes.fed("{99.5 (older)" + REALS + bytes + " ");
        for (int i = 0; i < 4; i++) {
            reader.next();
        }
        Checks.same("the kind of " + bytes, kind, reader.next());
        return reader;
    }

    private static void wholeValues() {
        Checks.about("The value of the latest TOKEN that was read: of a NUMBER, a TRUTH, a name's number");
        Checks.same("of a NUMBER", -12L, latest(1, "-12").whole());
        Checks.same("of 0", 0L, latest(1, "0").whole());
        Checks.same("of the least", -2147483648L, latest(1, "-2147483648").whole());
        Checks.same("of the greatest", 2147483647L, latest(1, "2147483647").whole());
        Checks.same("of a NUMBER with a BASE", -1L, latest(1, "16#ffffffff").whole());
        Checks.same("of a binary NUMBER", -3L, latest(1, Tapes.bytes(136, 253)).whole());
        Checks.same("of FALSE", 0L, latest(13, Tapes.bytes(141, 0)).whole());
        Checks.same("of a TRUTH", 1L, latest(13, Tapes.bytes(141, 1)).whole());
        for (int number : new int[] {0, 1, 127, 128, 200, 255}) {
            Checks.same("of a literal name's number", (long) number, latest(14, Tapes.bytes(145, number)).whole());
            Checks.same("of a name's number", (long) number, latest(15, Tapes.bytes(146, number)).whole());
        }
    }

    private static void wholeCounts() {
        Checks.about("how many a STRING, NAME, LITERAL, INSTANT or ROW has;");
        for (int length : new int[] {1, 2, 99, 100}) {
            String word = "a".repeat(length);
            Checks.same("of a NAME", (long) length, latest(3, " " + word).whole());
            Checks.same("of a LITERAL", (long) length, latest(4, "/" + word).whole());
            Checks.same("of an INSTANT", (long) length, latest(5, "//" + word).whole());
        }
        Checks.same("of a LITERAL without a WORD", 0L, latest(4, "/").whole());
        Checks.same("of an INSTANT without a WORD", 0L, latest(5, "//").whole());
        for (int length : new int[] {0, 1, 2, 255, 399, 400}) {
            String text = "a".repeat(length);
            Checks.same("of a STRING", (long) length, latest(6, "(" + text + ")").whole());
            Checks.same("of a STRING < >", (long) length, latest(6, "<" + "61".repeat(length) + ">").whole());
            Checks.same("of a binary STRING", (long) length, latest(6, Tapes.bytes(143) + Tapes.ordered(length, 2, false) + text).whole());
        }
        Checks.same("of bytes, not of what they came from", 2L, latest(6, "(\\nb)").whole());
        Checks.same("of a last digit alone", 2L, latest(6, "<414>").whole());
        Checks.same("of a STRING <~ ~>", 5L, latest(6, "<~z!!~>").whole());
        for (int count : new int[] {0, 1, 59, 60}) {
            Checks.same("of a ROW", (long) count, latest(16, Tapes.bytes(149, 32, 0, count) + "\0\1".repeat(count)).whole());
            Checks.same("of a ROW of REALS", (long) count, latest(16, Tapes.bytes(149, 33, 0, count) + "\0\1".repeat(count)).whole());
        }
    }

    private static void wholeOfOthers() {
        Checks.about("0 for others, and before.");
        Checks.same("of a REAL", 0L, latest(2, "12.5").whole());
        Checks.same("of a REAL of digits", 0L, latest(2, "2147483648").whole());
        Checks.same("of a binary REAL", 0L, latest(2, Tapes.bytes(137, 32, 0, 1)).whole());
        Checks.same("of a float", 0L, latest(2, Tapes.bytes(138, 63, 128, 0, 0)).whole());
        for (int kind = 7; kind <= 12; kind++) {
            Checks.same("of kind " + kind, 0L, latest(kind, KINDS[kind - 1]).whole());
        }
        Checks.same("before", 0L, new TokenReader().whole());
        Checks.same("before it is read", 0L, Tapes.fed("12 ").whole());
        for (String wrong : WRONGS) {
            TokenReader reader = Tapes.fed(wrong);
            reader.next();
            Checks.same("before, with something WRONG", 0L, reader.whole());
            noSigns("before, with something WRONG", reader);
            noRow("before, with something WRONG", reader);
        }
        for (String part : PARTS) {
            TokenReader reader = Tapes.fed(part);
            reader.next();
            Checks.same("before it is whole", 0L, reader.whole());
            noSigns("before it is whole", reader);
            noRow("before it is whole", reader);
        }
    }

    private static void realOfKinds() {
        Checks.about("The value of a REAL;");
        Checks.same("of a REAL", -2.5, latest(2, "-2.5").real());
        Checks.same("of a REAL of digits", 2147483648.0, latest(2, "2147483648").real());
        Checks.same("of a REAL with an exponent", 300.0, latest(2, "3e2").real());
        Checks.same("of a binary REAL", 0.5, latest(2, Tapes.bytes(137, 33, 0, 1)).real());
        Checks.same("of a float", 1.0, latest(2, Tapes.bytes(138, 63, 128, 0, 0)).real());
    }

    private static void realOfOthers() {
        Checks.about("0.0 for others.");
        for (int kind = 1; kind <= 16; kind++) {
            TokenReader reader = Tapes.fed("{99.5 " + KINDS[kind - 1]);
            reader.next();
            reader.next();
            Checks.same("the REAL", 99.5, reader.real());
            Checks.same("kind", kind, reader.next());
            Checks.same("of kind " + kind, kind == 2 ? 2.5 : 0.0, reader.real());
        }
        Checks.same("of a ROW of REALS", 0.0, latest(16, REALS).real());
        Checks.same("before", 0.0, new TokenReader().real());
        for (String infinite : new String[] {"1e999 ", Tapes.bytes(138, 127, 128, 0, 0)}) {
            TokenReader reader = Tapes.fed(infinite);
            reader.next();
            Checks.same("of an infinite one", 0.0, reader.real());
        }
    }

    private static void signs() {
        Checks.about("Byte i of a STRING, NAME, LITERAL or INSTANT (without /);");
        String[] texts = {" a\u00ff", "/a\u00ff", "//a\u00ff", "(a\u00ff)", "<61ff>", "<~@K-~>", Tapes.bytes(142, 2, 'a', 255)};
        int[] kinds = {3, 4, 5, 6, 6, 6, 6};
        for (int i = 0; i < texts.length; i++) {
            TokenReader reader = latest(kinds[i], texts[i]);
            Checks.same("byte 0 of " + texts[i], 97, reader.sign(0));
            Checks.same("byte 1 of " + texts[i], 255, reader.sign(1));
        }
        Checks.same("without /", 97, latest(4, "/ab").sign(0));
        Checks.same("without //", 97, latest(5, "//ab").sign(0));
        TokenReader longest = latest(6, "(" + "a".repeat(399) + "z)");
        Checks.same("byte 398", 97, longest.sign(398));
        Checks.same("byte 399", 122, longest.sign(399));
        TokenReader word = latest(4, "/" + "a".repeat(99) + "z");
        Checks.same("byte 98", 97, word.sign(98));
        Checks.same("byte 99", 122, word.sign(99));
    }

    private static void signsPastTheEnd() {
        Checks.about("NONE past its end");
        String[] texts = {" ab", "/ab", "//ab", "(ab)", "<6162>", Tapes.bytes(142, 2, 'a', 'b')};
        int[] kinds = {3, 4, 5, 6, 6, 6};
        for (int i = 0; i < texts.length; i++) {
            TokenReader reader = latest(kinds[i], texts[i]);
            Checks.same("the last byte of " + texts[i], 98, reader.sign(1));
            for (int past : new int[] {2, 3, 4, 5, 99, 100, 399, 401, -2}) {
                Checks.same("byte " + past + " of " + texts[i], -1, reader.sign(past));
            }
            for (int past : FAR) {
                Checks.same("byte " + past + " of " + texts[i], -1, reader.sign(past));
            }
        }
        Checks.same("of an empty STRING", -1, latest(6, "()").sign(0));
        Checks.same("of an empty LITERAL", -1, latest(4, "/").sign(0));
        Checks.same("of an empty INSTANT", -1, latest(5, "//").sign(0));
        TokenReader longest = Tapes.fed("(" + "a".repeat(400) + ")(" + "a".repeat(401) + ")");
        longest.next();
        longest.next();
        Checks.same("byte 399", 97, longest.sign(399));
        Checks.same("byte 400", -1, longest.sign(400));
        Checks.same("byte 401", -1, longest.sign(401));
    }

    private static void signsOfOthers() {
        Checks.about("NONE past its end, and for others.");
        String[] others = {" 12", " 1.5", " 16#f", "[", "]", "{", "}", "<<", ">>", Tapes.bytes(136, 1), Tapes.bytes(141, 1),
            Tapes.bytes(145, 1), Tapes.bytes(146, 1), Tapes.bytes(149, 32, 0, 1, 0, 1), Tapes.bytes(137, 32, 0, 1)};
        for (String other : others) {
            TokenReader reader = Tapes.fed("{(abc)(defg)" + other + " ");
            for (int i = 0; i < 3; i++) {
                reader.next();
            }
            Checks.same("is a TOKEN", true, reader.next() > 0);
            noSigns("of" + other, reader);
        }
    }

    private static void binaryOfNumbers() {
        Checks.about("Of number i of a ROW: 0 whether it is a REAL (1, 0), 1 the NUMBER");
        TokenReader numbers = latest(16, Tapes.bytes(149, 32, 0, 3, 0, 5, 255, 250, 0, 0));
        for (int i = 0; i < 3; i++) {
            Checks.same("no REAL " + i, 0, numbers.binary(i, 0));
        }
        Checks.same("5", 5, numbers.binary(0, 1));
        Checks.same("-6", -6, numbers.binary(1, 1));
        Checks.same("0", 0, numbers.binary(2, 1));
        TokenReader wide = latest(16, Tapes.bytes(149, 0, 0, 2, 128, 0, 0, 0, 127, 255, 255, 255));
        Checks.same("the least", -2147483648, wide.binary(0, 1));
        Checks.same("the greatest", 2147483647, wide.binary(1, 1));
    }

    private static void binaryOfReals() {
        Checks.about("1 the NUMBER (0 for a REAL).");
        String[] rows = {Tapes.bytes(149, 33, 0, 2, 0, 5, 0, 6), Tapes.bytes(149, 1, 0, 2, 0, 0, 0, 5, 0, 0, 0, 6),
            Tapes.bytes(149, 48, 0, 2, 63, 128, 0, 0, 0, 0, 0, 0), Tapes.bytes(149, 176, 2, 0, 0, 0, 128, 63, 0, 0, 0, 0)};
        for (String row : rows) {
            TokenReader reader = latest(16, row);
            for (int i = 0; i < 2; i++) {
                Checks.same("a REAL", 1, reader.binary(i, 0));
                Checks.same("a REAL is no NUMBER", 0, reader.binary(i, 1));
            }
        }
    }

    private static void binaryOutside() {
        Checks.about("1 the NUMBER (0 for a REAL). IndexOutOfBoundsException.");
        for (String row : new String[] {NUMBERS, Tapes.bytes(149, 33, 0, 2, 0, 5, 0, 6)}) {
            TokenReader reader = latest(16, row);
            for (int what = 0; what < 2; what++) {
                Checks.same("number 1 is inside", true, reader.binary(1, what) >= 0);
                outside("behind the last", reader, 2, what);
                outside("far behind the last", reader, 59, what);
                for (int i : FAR) {
                    outside("far", reader, i, what);
                }
            }
            for (int what : new int[] {2, -1, 3, Integer.MIN_VALUE, Integer.MAX_VALUE}) {
                outside("what", reader, 0, what);
                outside("what and number", reader, 2, what);
            }
        }
        TokenReader most = latest(16, Tapes.bytes(149, 32, 0, 60) + "\0\1".repeat(59) + "\0\2");
        Checks.same("number 58", 1, most.binary(58, 1));
        Checks.same("number 59", 2, most.binary(59, 1));
        outside("number 60", most, 60, 1);
        outside("number 60", most, 60, 0);
        noRow("an empty ROW", latest(16, Tapes.bytes(149, 32, 0, 0)));
        noRow("an empty ROW of REALS", latest(16, Tapes.bytes(149, 176, 0, 0)));
    }

    private static void binaryOfOthers() {
        Checks.about("Of number i of a ROW");
        for (int kind = 1; kind < 16; kind++) {
            noRow("kind " + kind, latest(kind, KINDS[kind - 1]));
            TokenReader reader = Tapes.fed("{" + NUMBERS + NUMBERS + KINDS[kind - 1]);
            for (int i = 0; i < 4; i++) {
                reader.next();
            }
            noRow("kind " + kind + " behind two ROWS", reader);
        }
        noRow("before", new TokenReader());
        noRow("before it is read", Tapes.fed(NUMBERS));
    }

    private static void staleRows() {
        Checks.about("(0.0 for a NUMBER)");
        TokenReader first = Tapes.fed(NUMBERS + NUMBERS + REALS);
        TokenReader second = Tapes.fed(REALS + REALS + NUMBERS);
        for (int i = 0; i < 3; i++) {
            Checks.same("a ROW", 16, first.next());
            Checks.same("a ROW", 16, second.next());
        }
        Checks.same("no NUMBER is left", 0, first.binary(0, 1));
        Checks.same("its REAL", 2.5, first.binaryReal(0));
        outside("a shorter ROW", first, 1, 1);
        noReal("a shorter ROW", first, 1);
        Checks.same("no REAL is left", 0.0, second.binaryReal(0));
        Checks.same("its NUMBER", 5, second.binary(0, 1));
        Checks.same("NUMBERS again", 0, second.binary(0, 0));
    }

    private static void binaryReals() {
        Checks.about("The REAL i of a ROW (0.0 for a NUMBER).");
        TokenReader reals = latest(16, Tapes.bytes(149, 33, 0, 2, 0, 5, 255, 255));
        Checks.same("2.5", 2.5, reals.binaryReal(0));
        Checks.same("-0.5", -0.5, reals.binaryReal(1));
        TokenReader numbers = latest(16, NUMBERS);
        Checks.same("of a NUMBER", 0.0, numbers.binaryReal(0));
        Checks.same("of another NUMBER", 0.0, numbers.binaryReal(1));
        Checks.same("of a float", -2.0, latest(16, Tapes.bytes(149, 48, 0, 1, 192, 0, 0, 0)).binaryReal(0));
        TokenReader most = latest(16, Tapes.bytes(149, 33, 0, 60) + "\0\1".repeat(59) + "\0\2");
        Checks.same("REAL 58", 0.5, most.binaryReal(58));
        Checks.same("REAL 59", 1.0, most.binaryReal(59));
        noReal("REAL 60", most, 60);
    }

    private static void binaryRealsOutside() {
        Checks.about("The REAL i of a ROW (0.0 for a NUMBER). IndexOutOfBoundsException.");
        for (String row : new String[] {NUMBERS, Tapes.bytes(149, 33, 0, 2, 0, 5, 0, 6)}) {
            TokenReader reader = latest(16, row);
            Checks.same("number 1 is inside", true, reader.binaryReal(1) >= 0.0);
            noReal("behind the last", reader, 2);
            noReal("far behind the last", reader, 59);
            for (int i : FAR) {
                noReal("far", reader, i);
            }
        }
    }

    private static void refusedBinaryChangesNothing() {
        Checks.about("IndexOutOfBoundsException.");
        TokenReader reader = Tapes.fed("{16#f " + NUMBERS + "(a) ");
        for (int i = 0; i < 3; i++) {
            reader.next();
        }
        String before = all(reader, 18, 2);
        outside("a number behind the last", reader, 2, 1);
        outside("a wrong what", reader, 0, 2);
        noReal("a number behind the last", reader, 2);
        Checks.fails("a byte behind the last", ArrayIndexOutOfBoundsException.class, () -> reader.octet(18));
        Checks.same("a sign of a ROW", -1, reader.sign(0));
        Checks.same("all stays", before, all(reader, 18, 2));
        Checks.same("what follows", "STRING(a)@14 MORE", Tapes.rest(reader));
    }

    private static void places() {
        Checks.about("The place of the latest TOKEN, or of what was WRONG; 0 before.");
        TokenReader reader = Tapes.fed(" %c\n /ab (x)<4g>}16#100000000 ");
        int[] answers = {4, 6, -3, -4, -4, -6, 0};
        int[] places = {5, 9, 14, 15, 16, 17, 17};
        Checks.same("before", 0, reader.place());
        for (int i = 0; i < answers.length; i++) {
            Checks.same("answer " + i, answers[i], reader.next());
            Checks.same("place " + i, places[i], reader.place());
        }
        reader.end();
        Checks.same("behind all", 20, reader.next());
        Checks.same("its place stays", 17, reader.place());
        TokenReader waiting = Tapes.fed("  ab");
        Checks.same("not known yet", 0, waiting.next());
        Checks.same("before", 0, waiting.place());
        waiting.end();
        Checks.same("before it is read", 0, waiting.place());
        waiting.next();
        Checks.same("now", 2, waiting.place());
        TokenReader none = Tapes.fed("  ");
        none.end();
        Checks.same("nothing", 20, none.next());
        Checks.same("before", 0, none.place());
    }

    private static void placesOfAllWrongs() {
        Checks.about("or of what was WRONG;");
        int[] steps = {0, 0, 3, 4, 4, 0, 0, 0, 0, 0, 1, 0, 1, 0, 0, 1, 0, 0, 0};
        Checks.same("a step for each", WRONGS.length, steps.length);
        for (int i = 0; i < WRONGS.length; i++) {
            TokenReader reader = Tapes.fed("[ " + WRONGS[i]);
            reader.next();
            reader.next();
            Checks.same("place of " + WRONGS[i], 2 + steps[i], reader.place());
        }
    }

    private static void bases() {
        Checks.about("The BASE of the latest NUMBER that was a WORD; 10 before.");
        TokenReader reader = Tapes.fed("2#1 16#f 1.5 abc 37#1 " + Tapes.bytes(136, 5)
                + "2#100000000000000000000000000000000 8#7 12 36#z ) /7 (2#1) ");
        int[] answers = {1, 1, 2, 3, 3, 1, -6, 1, 1, 1, -4, 4, 6, 0};
        int[] bases = {2, 16, 16, 16, 16, 16, 16, 8, 10, 36, 36, 36, 36, 36};
        Checks.same("before", 10, reader.base());
        for (int i = 0; i < answers.length; i++) {
            Checks.same("answer " + i, answers[i], reader.next());
            Checks.same("base " + i, bases[i], reader.base());
        }
        TokenReader open = Tapes.fed("16#f 8#7");
        open.next();
        open.next();
        Checks.same("a NUMBER that is not whole", 16, open.base());
        TokenReader great = Tapes.fed("16#f 99999999999 ");
        great.next();
        Checks.same("a REAL of digits", 2, great.next());
        Checks.same("its base", 16, great.base());
        TokenReader binary = Tapes.fed(Tapes.bytes(136, 5) + "1.5 a ");
        for (int i = 0; i < 3; i++) {
            binary.next();
            Checks.same("before a NUMBER that was a WORD", 10, binary.base());
        }
        for (int base = 2; base <= 36; base++) {
            TokenReader one = Tapes.fed(base + "#1 ");
            one.next();
            Checks.same("base", base, one.base());
        }
    }

    private static void depths() {
        Checks.about("`int depth()`: DEPTH.");
        TokenReader reader = Tapes.fed("{{[(}<<}}}{");
        int[] open = {1, 2, 2};
        for (int depth : open) {
            reader.next();
            Checks.same("depth", depth, reader.depth());
        }
        Checks.same("} in a STRING", 0, reader.next());
        Checks.same("depth", 2, reader.depth());
        TokenReader closed = Tapes.fed("{}}{");
        int[] answers = {9, 10, -4, 9};
        int[] depths = {1, 0, 0, 1};
        for (int i = 0; i < answers.length; i++) {
            Checks.same("answer " + i, answers[i], closed.next());
            Checks.same("depth " + i, depths[i], closed.depth());
        }
        TokenReader string = Tapes.fed("{{(a");
        string.next();
        string.next();
        string.end();
        Checks.same("a STRING that is not whole", -7, string.next());
        Checks.same("the braces are told behind it", 2, string.depth());
        Checks.same("the innermost", -7, string.next());
        Checks.same("its place", 1, string.place());
        Checks.same("depth then", 0, string.depth());
        Checks.same("behind all", 20, string.next());
        Checks.same("depth", 0, string.depth());
    }

    private static void octets() {
        Checks.about("Byte i of all that came.");
        TokenReader reader = Tapes.fed("1 \u00ff\u0080 \u007f");
        reader.next();
        byte[] came = {49, 32, -1, -128, 32, 127};
        for (int i = 0; i < came.length; i++) {
            Checks.same("byte " + i, came[i], reader.octet(i));
        }
        Tapes.rest(reader);
        reader.end();
        Tapes.rest(reader);
        for (int i = 0; i < came.length; i++) {
            Checks.same("byte " + i + " when all is read", came[i], reader.octet(i));
        }
        TokenReader full = Tapes.fed("a".repeat(2999) + "z");
        Checks.same("byte 2998", (byte) 'a', full.octet(2998));
        Checks.same("byte 2999", (byte) 'z', full.octet(2999));
    }

    private static void octetsOutside() {
        Checks.about("`byte octet(int i) throws ArrayIndexOutOfBoundsException`");
        String[] tapes = {"", "a", "abcde", "a".repeat(2999), "a".repeat(3000)};
        for (String bytes : tapes) {
            TokenReader reader = Tapes.fed(bytes);
            int[] outside = {-1, bytes.length(), bytes.length() + 1, 3000, 3001, Integer.MIN_VALUE, Integer.MAX_VALUE};
            for (int i : outside) {
                Checks.fails("byte " + i + " of " + bytes.length(), ArrayIndexOutOfBoundsException.class, () -> reader.octet(i));
            }
            if (!bytes.isEmpty()) {
                Checks.same("the last of " + bytes.length(), (byte) bytes.charAt(bytes.length() - 1), reader.octet(bytes.length() - 1));
            }
        }
    }

    private static void clearForgets() {
        Checks.about("All goes, as at first.");
        String[] befores = {"", "12 16#f ", "1.5 ", "{ {(abc) ", "<4g", "(abc", NUMBERS, REALS, "abc /abc //abc ", "{".repeat(21),
            "  {" + Tapes.bytes(149, 48, 0, 1, 192, 0, 0, 0), "% comment", "x ) ", Tapes.bytes(141, 1), Tapes.bytes(146, 9)};
        for (String before : befores) {
            for (int ended = 0; ended < 2; ended++) {
                TokenReader reader = Tapes.fed(before);
                Tapes.rest(reader);
                if (ended == 1) {
                    reader.end();
                    Tapes.rest(reader);
                }
                reader.clear();
                isAsNew("cleared " + before, reader);
                reader.clear();
                worksAsNew(reader);
                reader.clear();
                reader.clear();
                isAsNew("cleared twice " + before, reader);
            }
        }
    }

    private static void worksAsNew(TokenReader reader) {
        Checks.same("add after clear", 1, reader.add((byte) '7'));
        Checks.same("octet after clear", (byte) '7', reader.octet(0));
        Checks.fails("octet 1 after clear", ArrayIndexOutOfBoundsException.class, () -> reader.octet(1));
        Checks.same("not yet", 0, reader.next());
        Checks.same("end after clear", 1, reader.end());
        Checks.same("next after clear", 1, reader.next());
        Checks.same("whole after clear", 7L, reader.whole());
        Checks.same("behind all", 20, reader.next());
    }

    private static void clearOfAFullOne() {
        Checks.about("`void clear()`: All goes");
        TokenReader reader = Tapes.fed("a".repeat(3000));
        Checks.fails("full", UnsupportedOperationException.class, () -> reader.add((byte) 1));
        reader.clear();
        Checks.same("not full any more", 1, reader.add((byte) '{'));
        Checks.same("a {", 9, reader.next());
        reader.clear();
        Checks.same("a } behind clear", 1, reader.add((byte) '}'));
        Checks.same("is alone", -4, reader.next());
        reader.clear();
        Tapes.feed(reader, "{".repeat(20));
        for (int i = 1; i <= 20; i++) {
            Checks.same("{ " + i, 9, reader.next());
        }
        reader.clear();
        Tapes.feed(reader, " [{");
        reader.end();
        Checks.same("what is read behind clear", "[@1 {@2 WRONG6@2 END", Tapes.rest(reader));
    }
}
