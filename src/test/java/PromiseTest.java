/** Promises 1 to 14, one by one. */
public final class PromiseTest {
    public static void main(String[] args) {
        newObject();
        addCounts();
        addRefuses();
        endTells();
        nextAnswers();
        nextLeavesTheLatest();
        wholeOfKinds();
        realOfKinds();
        signOfKinds();
        binaryOfRows();
        binaryRealOfRows();
        places();
        bases();
        depths();
        braceWithoutEnd();
        octets();
        clearForgets();
        Checks.done();
    }

    private static void isAsNew(String what, TokenReader reader) {
        Checks.same(what + ": next", 0, reader.next());
        Checks.same(what + ": whole", 0L, reader.whole());
        Checks.same(what + ": real", 0.0, reader.real());
        Checks.same(what + ": sign", -1, reader.sign(0));
        Checks.same(what + ": place", 0, reader.place());
        Checks.same(what + ": base", 10, reader.base());
        Checks.same(what + ": depth", 0, reader.depth());
        noRow(what, reader);
        Checks.fails(what + ": octet", ArrayIndexOutOfBoundsException.class, () -> reader.octet(0));
        Checks.same(what + ": end", 0, reader.end());
        Checks.same(what + ": next at the END", 20, reader.next());
    }

    private static void noRow(String what, TokenReader reader) {
        Checks.fails(what + ": binary what 0", IndexOutOfBoundsException.class, () -> reader.binary(0, 0));
        Checks.fails(what + ": binary what 1", IndexOutOfBoundsException.class, () -> reader.binary(0, 1));
        Checks.fails(what + ": binaryReal", IndexOutOfBoundsException.class, () -> reader.binaryReal(0));
    }

    private static void newObject() {
        Checks.same("NONE", -1, TokenReader.NONE);
        isAsNew("a new object", new TokenReader());
        TokenReader other = Tapes.fed("1 ");
        isAsNew("a new object beside another", new TokenReader());
        Checks.same("the other", 1, other.next());
    }

    private static void addCounts() {
        TokenReader reader = new TokenReader();
        Checks.same("first add", 1, reader.add((byte) 49));
        Checks.same("second add", 2, reader.add((byte) -1));
        Checks.same("third add", 3, reader.add((byte) 32));
        Checks.same("next", 3, reader.next());
        Checks.same("add counts what is read too", 4, reader.add((byte) 0));
    }

    private static void addRefuses() {
        TokenReader ended = Tapes.fed("ab");
        ended.end();
        Checks.fails("add behind the END", IllegalStateException.class, () -> ended.add((byte) 1));
        Checks.fails("octet of what was refused", ArrayIndexOutOfBoundsException.class, () -> ended.octet(2));
        TokenReader full = new TokenReader();
        for (int i = 1; i <= 3000; i++) {
            Checks.same("add " + i, i, full.add((byte) 32));
        }
        Checks.fails("add to 3000", UnsupportedOperationException.class, () -> full.add((byte) 1));
        Checks.same("the last byte", (byte) 32, full.octet(2999));
        Checks.fails("byte 3000", ArrayIndexOutOfBoundsException.class, () -> full.octet(3000));
        Checks.same("end of 3000", 3000, full.end());
        Checks.fails("add to 3000 behind the END", IllegalStateException.class, () -> full.add((byte) 1));
    }

    private static void endTells() {
        TokenReader reader = Tapes.fed("12 34 ");
        reader.next();
        Checks.same("end", 4, reader.end());
        Checks.same("end again", -1, reader.end());
        reader.next();
        Checks.same("end after more was read", -1, reader.end());
        Checks.same("the END of nothing", 0, new TokenReader().end());
        Checks.same("WHITE that is not read", 3, Tapes.fed("  %").end());
        TokenReader waiting = Tapes.fed("  (a");
        waiting.next();
        Checks.same("what 0 did not read", 4, waiting.end());
        endAfter("all up to the wrong byte is read", "<4g>", 1);
        endAfter("wrong r", Tapes.bytes(137, 48, 1, 2), 2);
        endAfter("too long", "a".repeat(101) + " b", 2);
        endAfter("too great", "16#100000000 b", 2);
        endAfter("alone", ") b", 2);
        endAfter("> alone", ">b", 1);
        endAfter("}", " }  ", 2);
        endAfter("a STRING", " (a) ", 1);
        endAfter("<<", "<<<", 1);
        endAfter("[", "[[", 1);
    }

    private static void endAfter(String what, String bytes, int unread) {
        TokenReader reader = Tapes.fed(bytes);
        reader.next();
        Checks.same(what + ": end", unread, reader.end());
    }

    private static void nextAnswers() {
        Tapes.reads("/ab/ //cd /% x\n[<<>>]{}",
                "LITERAL(ab)@0 LITERAL()@3 INSTANT(cd)@5 LITERAL()@10 [@15 <<@16 >>@18 ]@20 {@21 }@22 END");
        Tapes.reads("[]{}", "[@0 ]@1 {@2 }@3 END");
        Tapes.reads("<<>>", "<<@0 >>@2 END");
        Tapes.reads("<<<41>>>", "<<@0 STRING(A)@2 >>@6 END");
        Tapes.reads(">", "WRONG3@0 END");
        Tapes.reads("> >", "WRONG3@0 WRONG3@2 END");
        Tapes.reads(">>>", ">>@0 WRONG3@2 END");
        Tapes.reads(")}", "WRONG3@0 WRONG3@1 END");
        Tapes.readsOpen(">", "MORE");
        Tapes.readsOpen(">>", ">>@0 MORE");
        Tapes.readsOpen("> ", "WRONG3@0 MORE");
        Tapes.readsOpen("<", "MORE");
        Tapes.readsOpen("<<", "<<@0 MORE");
        Tapes.readsOpen("[]{})", "[@0 ]@1 {@2 }@3 WRONG3@4 MORE");
        TokenReader reader = Tapes.fed("ab");
        Checks.same("not known yet", 0, reader.next());
        reader.end();
        Checks.same("known at the END", 3, reader.next());
        Checks.same("behind all", 20, reader.next());
        Checks.same("behind all again", 20, reader.next());
    }

    /** What was read last must outlive 0, 20 and every WRONG but 2 to 6 of its place. */
    private static void nextLeavesTheLatest() {
        String[] wrongs = {"a".repeat(101) + " ", "<41g", "<~!!z", ") ", "> ", "} ", "16#100000000 ", "1e999 ",
            Tapes.bytes(137, 60), Tapes.bytes(138, 127, 128, 0, 0), Tapes.bytes(141, 2), Tapes.bytes(128),
            Tapes.bytes(149, 48, 0, 1, 127, 128, 0, 0), "(" + "b".repeat(401) + ")",
            Tapes.bytes(149, 32, 0, 61) + "a".repeat(122)};
        for (String wrong : wrongs) {
            TokenReader reader = Tapes.fed("(xyz)" + wrong);
            reader.next();
            Checks.same("is WRONG", true, reader.next() < 0);
            staysXyz("behind " + wrong, reader);
            Checks.same("the place changed behind " + wrong, true, reader.place() > 0);
            Checks.same("not yet", 0, reader.next());
            staysXyz("behind 0 and " + wrong, reader);
        }
        String[] parts = {"(abcdef", "<4142", "<~!!!!!", "12", "1.5", "/ab", Tapes.bytes(132, 1, 2, 3),
            Tapes.bytes(142, 5, 'a'), Tapes.bytes(149, 32, 0, 2, 1, 2, 3)};
        for (String part : parts) {
            TokenReader reader = Tapes.fed("(xyz) " + part);
            reader.next();
            Checks.same("not yet " + part, 0, reader.next());
            staysXyz("behind " + part, reader);
            Checks.same("the place stays behind " + part, 0, reader.place());
        }
        TokenReader reader = Tapes.fed("  (xyz)  ");
        reader.next();
        reader.end();
        Checks.same("behind all", 20, reader.next());
        staysXyz("behind all", reader);
        Checks.same("the place stays behind all", 2, reader.place());
        rowStays();
    }

    private static void staysXyz(String what, TokenReader reader) {
        Checks.same(what + ": whole", 3L, reader.whole());
        Checks.same(what + ": text", "xyz", Tapes.text(reader));
        Checks.same(what + ": past its end", -1, reader.sign(3));
        Checks.same(what + ": real", 0.0, reader.real());
        noRow(what, reader);
    }

    private static void rowStays() {
        TokenReader reader = Tapes.fed(Tapes.bytes(149, 32, 0, 2, 0, 5, 0, 6) + Tapes.bytes(149, 48, 0, 2, 63, 128, 0, 0, 127, 128, 0, 0));
        Checks.same("a ROW", 16, reader.next());
        Checks.same("a wrong ROW", -6, reader.next());
        Checks.same("how many stay", 2L, reader.whole());
        Checks.same("NUMBERS stay", 0, reader.binary(0, 0));
        Checks.same("number 0 stays", 5, reader.binary(0, 1));
        Checks.same("number 1 stays", 6, reader.binary(1, 1));
        Checks.same("REAL 0 stays", 0.0, reader.binaryReal(0));
        Checks.same("the place does not", 8, reader.place());
    }

    private static TokenReader latest(int kind, String bytes) {
        TokenReader reader = Tapes.fed("99.5 (old)" + Tapes.bytes(149, 33, 0, 1, 0, 1) + bytes + " ");
        for (int i = 0; i < 3; i++) {
            reader.next();
        }
        Checks.same("the kind of " + bytes, kind, reader.next());
        return reader;
    }

    private static void wholeOfKinds() {
        Checks.same("of a NUMBER", -12L, latest(1, "-12").whole());
        Checks.same("of a NUMBER with a BASE", -1L, latest(1, "16#ffffffff").whole());
        Checks.same("of a binary NUMBER", -3L, latest(1, Tapes.bytes(136, 253)).whole());
        Checks.same("of a REAL", 0L, latest(2, "12.5").whole());
        Checks.same("of a binary REAL", 0L, latest(2, Tapes.bytes(137, 32, 0, 1)).whole());
        Checks.same("of a NAME", 3L, latest(3, " abc").whole());
        Checks.same("of a LITERAL", 3L, latest(4, "/abc").whole());
        Checks.same("of an INSTANT", 3L, latest(5, "//abc").whole());
        Checks.same("of an INSTANT without a WORD", 0L, latest(5, "//").whole());
        Checks.same("of a STRING", 2L, latest(6, "(\\nb)").whole());
        Checks.same("of a STRING < >", 2L, latest(6, "<414>").whole());
        Checks.same("of a binary STRING", 1L, latest(6, Tapes.bytes(142, 1, 7)).whole());
        String[] marks = {"[", "]", "{", "{}", "<<", ">>"};
        int[] kinds = {7, 8, 9, 9, 11, 12};
        for (int i = 0; i < marks.length; i++) {
            Checks.same("of " + marks[i], 0L, latest(kinds[i], marks[i]).whole());
        }
        Checks.same("of a TRUTH", 1L, latest(13, Tapes.bytes(141, 1)).whole());
        Checks.same("of a literal name's number", 200L, latest(14, Tapes.bytes(145, 200)).whole());
        Checks.same("of a name's number", 201L, latest(15, Tapes.bytes(146, 201)).whole());
        Checks.same("of a ROW", 2L, latest(16, Tapes.bytes(149, 32, 0, 2, 0, 5, 0, 6)).whole());
        Checks.same("of a ROW of REALS", 1L, latest(16, Tapes.bytes(149, 33, 0, 1, 0, 5)).whole());
    }

    private static void realOfKinds() {
        Checks.same("of a REAL", -2.5, latest(2, "-2.5").real());
        Checks.same("of a binary REAL", 0.5, latest(2, Tapes.bytes(137, 33, 0, 1)).real());
        Checks.same("of a float", 1.0, latest(2, Tapes.bytes(138, 63, 128, 0, 0)).real());
        String[] others = {"12", " a", "/a", "//a", "(a)", "[", "]", "{"};
        int[] kinds = {1, 3, 4, 5, 6, 7, 8, 9};
        for (int i = 0; i < others.length; i++) {
            TokenReader reader = Tapes.fed("99.5 " + others[i] + " ");
            reader.next();
            Checks.same("kind of " + others[i], kinds[i], reader.next());
            Checks.same("of " + others[i], 0.0, reader.real());
        }
        Checks.same("of a ROW", 0.0, latest(16, Tapes.bytes(149, 33, 0, 1, 0, 5)).real());
        Checks.same("of a TRUTH", 0.0, latest(13, Tapes.bytes(141, 1)).real());
    }

    private static void signOfKinds() {
        String[] texts = {" a\u00ff", "/a\u00ff", "//a\u00ff", "(a\u00ff)", "<61ff>", Tapes.bytes(142, 2, 'a', 255)};
        int[] kinds = {3, 4, 5, 6, 6, 6};
        for (int i = 0; i < texts.length; i++) {
            TokenReader reader = latest(kinds[i], texts[i]);
            Checks.same("byte 0 of " + texts[i], 97, reader.sign(0));
            Checks.same("byte 1 of " + texts[i], 255, reader.sign(1));
            Checks.same("byte 2 of " + texts[i], -1, reader.sign(2));
            Checks.same("byte -1 of " + texts[i], -1, reader.sign(-1));
            Checks.same("the least byte of " + texts[i], -1, reader.sign(Integer.MIN_VALUE));
            Checks.same("the last byte of " + texts[i], -1, reader.sign(Integer.MAX_VALUE));
        }
        String[] others = {" 12", " 1.5", " 16#f", "[", "]", "{", "<<", ">>", Tapes.bytes(136, 1), Tapes.bytes(141, 1),
            Tapes.bytes(145, 1), Tapes.bytes(146, 1), Tapes.bytes(149, 32, 0, 1, 0, 1), Tapes.bytes(137, 32, 0, 1)};
        for (String other : others) {
            TokenReader reader = Tapes.fed("(abc)" + other + " ");
            reader.next();
            Checks.same("is a TOKEN", true, reader.next() > 0);
            Checks.same("byte 0 of" + other, -1, reader.sign(0));
            Checks.same("byte 2 of" + other, -1, reader.sign(2));
        }
        TokenReader longest = Tapes.fed("(" + "a".repeat(399) + "z)(" + "a".repeat(401) + ")");
        longest.next();
        longest.next();
        Checks.same("byte 399", 122, longest.sign(399));
        Checks.same("byte 400", -1, longest.sign(400));
        Checks.same("byte 401", -1, longest.sign(401));
    }

    private static void outside(String what, TokenReader reader, int i, int which) {
        Checks.fails("binary of " + what, IndexOutOfBoundsException.class, () -> reader.binary(i, which));
    }

    private static void binaryOfRows() {
        TokenReader numbers = latest(16, Tapes.bytes(149, 32, 0, 3, 0, 5, 255, 250, 0, 0));
        Checks.same("a NUMBER", 0, numbers.binary(0, 0));
        Checks.same("5", 5, numbers.binary(0, 1));
        Checks.same("-6", -6, numbers.binary(1, 1));
        Checks.same("0", 0, numbers.binary(2, 1));
        outside("number 3", numbers, 3, 0);
        outside("number -1", numbers, -1, 0);
        outside("the least number", numbers, Integer.MIN_VALUE, 1);
        outside("the last number", numbers, Integer.MAX_VALUE, 1);
        outside("what 2", numbers, 0, 2);
        outside("what -1", numbers, 0, -1);
        TokenReader reals = latest(16, Tapes.bytes(149, 33, 0, 2, 0, 5, 0, 6));
        Checks.same("a REAL", 1, reals.binary(1, 0));
        Checks.same("a REAL is no NUMBER", 0, reals.binary(1, 1));
        outside("REAL 2", reals, 2, 1);
        TokenReader floats = latest(16, Tapes.bytes(149, 176, 1, 0, 0, 0, 128, 63));
        Checks.same("a float is a REAL", 1, floats.binary(0, 0));
        Checks.same("a float is no NUMBER", 0, floats.binary(0, 1));
        noRow("a NUMBER behind a ROW", latest(1, "12"));
        noRow("a STRING behind a ROW", latest(6, "(a)"));
        noRow("a mark behind a ROW", latest(7, "["));
        noRow("an empty ROW", latest(16, Tapes.bytes(149, 32, 0, 0)));
        staleNumbers();
    }

    /** A ROW behind two others tells nothing of theirs. */
    private static void staleNumbers() {
        String numbers = Tapes.bytes(149, 32, 0, 2, 0, 5, 0, 6);
        String reals = Tapes.bytes(149, 33, 0, 1, 0, 5);
        TokenReader first = Tapes.fed(numbers + numbers + reals);
        TokenReader second = Tapes.fed(reals + reals + numbers);
        for (int i = 0; i < 3; i++) {
            Checks.same("a ROW", 16, first.next());
            Checks.same("a ROW", 16, second.next());
        }
        Checks.same("no NUMBER is left", 0, first.binary(0, 1));
        Checks.same("its REAL", 2.5, first.binaryReal(0));
        outside("a shorter ROW", first, 1, 1);
        Checks.same("no REAL is left", 0.0, second.binaryReal(0));
        Checks.same("its NUMBER", 5, second.binary(0, 1));
        Checks.same("NUMBERS again", 0, second.binary(0, 0));
    }

    private static void binaryRealOfRows() {
        TokenReader reals = latest(16, Tapes.bytes(149, 33, 0, 2, 0, 5, 255, 255));
        Checks.same("2.5", 2.5, reals.binaryReal(0));
        Checks.same("-0.5", -0.5, reals.binaryReal(1));
        int[] outside = {2, -1, 60, Integer.MIN_VALUE, Integer.MAX_VALUE};
        for (int i : outside) {
            Checks.fails("REAL " + i, IndexOutOfBoundsException.class, () -> reals.binaryReal(i));
        }
        Checks.same("of a NUMBER", 0.0, latest(16, Tapes.bytes(149, 32, 0, 1, 0, 5)).binaryReal(0));
        Checks.same("of a float", -2.0, latest(16, Tapes.bytes(149, 48, 0, 1, 192, 0, 0, 0)).binaryReal(0));
    }

    private static void places() {
        TokenReader reader = Tapes.fed(" %c\n /ab (x)<4g>}16#100000000 ");
        int[] answers = {4, 6, -3, -4, -4, -6, 0};
        int[] places = {5, 9, 14, 15, 16, 17, 17};
        Checks.same("before", 0, reader.place());
        for (int i = 0; i < answers.length; i++) {
            Checks.same("answer " + i, answers[i], reader.next());
            Checks.same("place " + i, places[i], reader.place());
        }
    }

    private static void bases() {
        TokenReader reader = Tapes.fed("16#f 1.5 abc 37#1 " + Tapes.bytes(136, 5) + "2#100000000000000000000000000000000 8#7 12 36#z ) /7 ");
        int[] answers = {1, 2, 3, 3, 1, -6, 1, 1, 1, -4, 4, 0};
        int[] bases = {16, 16, 16, 16, 16, 16, 8, 10, 36, 36, 36, 36};
        Checks.same("before", 10, reader.base());
        for (int i = 0; i < answers.length; i++) {
            Checks.same("answer " + i, answers[i], reader.next());
            Checks.same("base " + i, bases[i], reader.base());
        }
        TokenReader open = Tapes.fed("16#f 8#7");
        open.next();
        open.next();
        Checks.same("a NUMBER that is not whole", 16, open.base());
        TokenReader great = Tapes.fed("16#f 99999999999 ");
        great.next();
        Checks.same("a REAL of digits", 2, great.next());
        Checks.same("its base", 16, great.base());
    }

    private static void depths() {
        TokenReader reader = Tapes.fed("{{[(}<<}}}{");
        int[] open = {1, 2, 2};
        for (int depth : open) {
            reader.next();
            Checks.same("depth", depth, reader.depth());
        }
        Checks.same("} in a STRING", 0, reader.next());
        Checks.same("depth", 2, reader.depth());
        TokenReader closed = Tapes.fed("{}}{");
        int[] answers = {9, 10, -4, 9};
        int[] depths = {1, 0, 0, 1};
        for (int i = 0; i < answers.length; i++) {
            Checks.same("answer " + i, answers[i], closed.next());
            Checks.same("depth " + i, depths[i], closed.depth());
        }
        TokenReader deep = Tapes.fed(" ".repeat(3) + "{".repeat(22) + "}{");
        for (int i = 1; i <= 20; i++) {
            Checks.same("brace " + i, 9, deep.next());
            Checks.same("depth " + i, i, deep.depth());
        }
        Checks.same("too deep", -2, deep.next());
        Checks.same("its place", 23, deep.place());
        Checks.same("too deep again", -2, deep.next());
        Checks.same("its place", 24, deep.place());
        Checks.same("depth stays", 20, deep.depth());
        Checks.same("closed", 10, deep.next());
        Checks.same("depth", 19, deep.depth());
        Checks.same("open again", 9, deep.next());
        Checks.same("depth", 20, deep.depth());
        Checks.same("end", 0, deep.end());
        Checks.same("the innermost", -7, deep.next());
        Checks.same("its place", 26, deep.place());
    }

    private static void braceWithoutEnd() {
        Tapes.reads(" {{}{ ", "{@1 {@2 }@3 {@4 WRONG6@4 END");
        Tapes.reads("{ { { } }", "{@0 {@2 {@4 }@6 }@8 WRONG6@0 END");
        TokenReader reader = Tapes.fed("{ ab");
        reader.next();
        reader.end();
        Checks.same("ab", 3, reader.next());
        Checks.same("depth before", 1, reader.depth());
        Checks.same("not closed", -7, reader.next());
        Checks.same("depth then", 0, reader.depth());
        Checks.same("place", 0, reader.place());
        Checks.same("ab stays", "ab", Tapes.text(reader));
        Checks.same("behind all", 20, reader.next());
        Tapes.readsOpen("{ ", "{@0 MORE");
        Tapes.reads("{ \u0084\u0001", "{@0 WRONG6@2 WRONG6@0 END");
    }

    private static void octets() {
        TokenReader reader = Tapes.fed("1 \u00ff\u0080 ");
        reader.next();
        Checks.same("byte 0, which is read", (byte) 49, reader.octet(0));
        Checks.same("byte 1", (byte) 32, reader.octet(1));
        Checks.same("byte 2", (byte) -1, reader.octet(2));
        Checks.same("byte 3", (byte) -128, reader.octet(3));
        int[] outside = {5, -1, 999, 2999, 3000, Integer.MIN_VALUE, Integer.MAX_VALUE};
        for (int i : outside) {
            Checks.fails("byte " + i, ArrayIndexOutOfBoundsException.class, () -> reader.octet(i));
        }
    }

    private static void clearForgets() {
        String[] befores = {"", "12 16#f ", "1.5 ", "{ {(abc) ", "<4g", "(abc", Tapes.bytes(149, 32, 0, 1, 0, 5),
            "  {" + Tapes.bytes(149, 48, 0, 1, 192, 0, 0, 0), "% comment", "x ) "};
        for (String before : befores) {
            TokenReader reader = Tapes.fed(before);
            Tapes.rest(reader);
            reader.clear();
            isAsNew("cleared " + before, reader);
            reader.clear();
            Checks.same("add after clear", 1, reader.add((byte) '7'));
            Checks.same("octet after clear", (byte) '7', reader.octet(0));
            Checks.fails("octet 1 after clear", ArrayIndexOutOfBoundsException.class, () -> reader.octet(1));
            Checks.same("not yet", 0, reader.next());
            Checks.same("end after clear", 1, reader.end());
            Checks.same("next after clear", 1, reader.next());
            Checks.same("whole after clear", 7L, reader.whole());
            Checks.same("behind all", 20, reader.next());
        }
    }
}
