/** The Terms of brackets and braces, and of DEPTH. */
public final class MarkTest {
    public static void main(String[] args) {
        eachMark();
        lessAndGreater();
        noneNeedsAnother();
        depthCounts();
        twentyAtMost();
        depthIsOfBracesAlone();
        Checks.done();
    }

    private static void eachMark() {
        Checks.about("7 [, 8 ], 9 {, 10 }, 11 <<, 12 >>.");
        String[] marks = {"[", "]", "{", "}", "<<", ">>"};
        for (int i = 0; i < marks.length; i++) {
            TokenReader reader = Tapes.fed("{" + marks[i] + "[");
            reader.next();
            Checks.same("kind of " + marks[i], 7 + i, reader.next());
            Checks.same("place of " + marks[i], 1, reader.place());
            Checks.same("no value of " + marks[i], 0L, reader.whole());
            Checks.same("its bytes alone are read: " + marks[i], 1, reader.end());
        }
        Tapes.reads("[]{}<<>>", "[@0 ]@1 {@2 }@3 <<@4 >>@6 END");
        Tapes.reads("[ ] { } << >>", "[@0 ]@2 {@4 }@6 <<@8 >>@11 END");
        Tapes.endsWithLast("[", "[@0 MORE");
        Tapes.endsWithLast("]", "]@0 MORE");
        Tapes.endsWithLast("{", "{@0 MORE");
        Tapes.endsWithLast("<<", "<<@0 MORE");
        Tapes.endsWithLast(">>", ">>@0 MORE");
        TokenReader closed = Tapes.fed("{}");
        closed.next();
        Checks.same("} is known at once", 10, closed.next());
    }

    private static void lessAndGreater() {
        Checks.about("11 <<, 12 >>.");
        Tapes.reads("<<<41>>>", "<<@0 STRING(A)@2 >>@6 END");
        Tapes.reads("<<<<>>>>", "<<@0 <<@2 >>@4 >>@6 END");
        Tapes.reads("<<<~~>>>", "<<@0 STRING()@2 >>@6 END");
        Tapes.reads(">>>", ">>@0 WRONG3@2 END");
        Tapes.reads("> >", "WRONG3@0 WRONG3@2 END");
        Tapes.reads(">%\n>", "WRONG3@0 WRONG3@3 END");
        Tapes.reads("<<<", "<<@0 WRONG6@2 END");
        Tapes.reads("< <", "WRONG2@2 END");
        Tapes.reads("<%\n<", "WRONG2@1 WRONG6@3 END");
    }

    private static void noneNeedsAnother() {
        Checks.about("At the END, behind all TOKENS, the answer is 20.");
        String[] marks = {"[", "]", "<<", ">>"};
        for (String mark : marks) {
            Tapes.reads(mark, mark + "@0 END");
        }
        Tapes.reads("[{]}", "[@0 {@1 ]@2 }@3 END");
        Tapes.reads("<<{>>}", "<<@0 {@2 >>@3 }@5 END");
    }

    private static void depthCounts() {
        Checks.about("DEPTH is how many { are open");
        TokenReader reader = Tapes.fed("{{}{}}{}}");
        int[] depths = {1, 2, 1, 2, 1, 0, 1, 0, 0};
        Checks.same("none is open", 0, reader.depth());
        for (int i = 0; i < depths.length; i++) {
            int answer = reader.next();
            Checks.same("answer " + i, i == 8 ? -4 : reader.octet(i) == '{' ? 9 : 10, answer);
            Checks.same("depth " + i, depths[i], reader.depth());
        }
        TokenReader open = Tapes.fed("{");
        Checks.same("a byte that is not read opens none", 0, open.depth());
        open.end();
        Checks.same("nor does the END", 0, open.depth());
        open.next();
        Checks.same("it does when it is read", 1, open.depth());
    }

    private static void twentyAtMost() {
        Checks.about("20 at most");
        TokenReader reader = Tapes.fed("{".repeat(22) + "}{{" + "}".repeat(21));
        for (int i = 1; i <= 20; i++) {
            Checks.same("{ " + i, 9, reader.next());
            Checks.same("depth", i, reader.depth());
        }
        Checks.same("{ 21", -2, reader.next());
        Checks.same("depth", 20, reader.depth());
        Checks.same("{ 22", -2, reader.next());
        Checks.same("depth", 20, reader.depth());
        Checks.same("}", 10, reader.next());
        Checks.same("depth", 19, reader.depth());
        Checks.same("{ 20 again", 9, reader.next());
        Checks.same("depth", 20, reader.depth());
        Checks.same("{ 21 again", -2, reader.next());
        for (int i = 19; i >= 0; i--) {
            Checks.same("} " + i, 10, reader.next());
            Checks.same("depth", i, reader.depth());
        }
        Checks.same("} without {", -4, reader.next());
        Checks.same("depth", 0, reader.depth());
    }

    private static void depthIsOfBracesAlone() {
        Checks.about("DEPTH is how many {");
        String[] others = {"[", "]", "<<", ">>", "({)", "(\\{)", "%{\n[", "/a ", ") ", "> ", Tapes.bytes(142, 1, '{')};
        for (String other : others) {
            TokenReader reader = Tapes.fed("{" + other);
            reader.next();
            Checks.same("is told " + other, true, reader.next() != 0);
            Checks.same("depth stays behind " + other, 1, reader.depth());
        }
    }
}
