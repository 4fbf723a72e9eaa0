/** The Terms of STRINGS in ( ), in < > and in <~ ~>. */
public final class StringTest {
    public static void main(String[] args) {
        round();
        escapes();
        lineEnds();
        base16();
        base85();
        base85Wrong();
        lengths();
        notWhole();
        Checks.done();
    }

    private static void round() {
        Tapes.reads("()", "STRING()@0 END");
        Tapes.reads("(a b)", "STRING(a$20b)@0 END");
        Tapes.reads("(a(b)(c(d)))e", "STRING(a(b)(c(d)))@0 NAME(e)@12 END");
        Tapes.reads("(%</[{>]}~\u0000\u0084\u00ff)", "STRING(%</[{>]}~$00$84$ff)@0 END");
        Tapes.reads("())", "STRING()@0 WRONG3@2 END");
        Tapes.reads(")", "WRONG3@0 END");
        Tapes.readsOpen("(a(b)", "MORE");
        Tapes.readsOpen("(", "MORE");
    }

    private static void escapes() {
        Tapes.reads("(\\n\\r\\t\\b\\f)", "STRING($0a$0d$09$08$0c)@0 END");
        Tapes.reads("(\\(\\)\\\\)", "STRING(()\\)@0 END");
        Tapes.reads("(\\(()\\)x)", "STRING((())x)@0 END");
        Tapes.reads("(\\q\\N\\8\\9\\%\\\u00ff)", "STRING(qN89%$ff)@0 END");
        Tapes.reads("(\\101\\1012\\7x\\53\\0)", "STRING(AA2$07x+$00)@0 END");
        Tapes.reads("(\\377\\400\\777\\501)", "STRING($ff$00$ffA)@0 END");
        Tapes.reads("(\\08\\018\\1a\\12)", "STRING($008$018$01a$0a)@0 END");
        Tapes.reads("(\\\\n\\\\)", "STRING(\\n\\)@0 END");
        Tapes.readsOpen("(\\)", "MORE");
        Tapes.readsOpen("(a\\", "MORE");
        Tapes.readsOpen("(a\\)\\1", "MORE");
    }

    private static void lineEnds() {
        Tapes.reads("(a\nb\rc\r\nd)", "STRING(a$0ab$0ac$0ad)@0 END");
        Tapes.reads("(\n\r\r\r\n\n)", "STRING($0a$0a$0a$0a$0a)@0 END");
        Tapes.reads("(a\\\nb\\\rc\\\r\nd)", "STRING(abcd)@0 END");
        Tapes.reads("(\\\n\n\\\n\r\\\r\r\\\r\n\n)", "STRING($0a$0a$0a$0a)@0 END");
        Tapes.reads("(a\fb)", "STRING(a$0cb)@0 END");
        Tapes.reads("(\r)(\\\r)", "STRING($0a)@0 STRING()@3 END");
    }

    private static void base16() {
        Tapes.reads("<>", "STRING()@0 END");
        Tapes.reads("<4a4B> <a0Ff>", "STRING(JK)@0 STRING($a0$ff)@7 END");
        Tapes.reads("<4> <414>", "STRING(@)@0 STRING(A@)@4 END");
        Tapes.reads("< 4\0 1\t\n\f\r42 >", "STRING(AB)@0 END");
        Tapes.reads("<4g>", "WRONG2@2 WRONG3@3 END");
        Tapes.reads("<4G1>", "WRONG2@2 NUMBER(1)@3 WRONG3@4 END");
        Tapes.reads("<41%\n>", "WRONG2@3 WRONG3@5 END");
        Tapes.reads("<4/ <(", "WRONG2@2 WRONG2@5 END");
        Tapes.reads("<4<41>", "WRONG2@2 NUMBER(41)@3 WRONG3@5 END");
        Tapes.reads("< <41>>", "WRONG2@2 NUMBER(41)@3 >>@5 END");
        Tapes.reads("< ~>", "WRONG2@2 WRONG3@3 END");
        Tapes.reads("<\u0088\u0001>", "WRONG2@1 NAME($01)@2 WRONG3@3 END");
        Tapes.reads("<\u000b>", "WRONG2@1 WRONG3@2 END");
        Tapes.readsOpen("<4g", "WRONG2@2 MORE");
        Tapes.readsOpen("<4", "MORE");
        Tapes.readsOpen("<", "MORE");
        Tapes.readsOpen("<41>", "STRING(A)@0 MORE");
    }

    private static void base85() {
        Tapes.reads("<~~>", "STRING()@0 END");
        Tapes.reads("<~9jqo^~>", "STRING(Man$20)@0 END");
        Tapes.reads("<~9jqo^BlbD-~>x", "STRING(Man$20is$20d)@0 NAME(x)@14 END");
        Tapes.reads("<~z~> <~zz!!!!!~>", "STRING($00$00$00$00)@0 STRING($00$00$00$00$00$00$00$00$00$00$00$00)@6 END");
        Tapes.reads("<~!!!!!z~>", "STRING($00$00$00$00$00$00$00$00)@0 END");
        Tapes.reads("<~s8W-!~>", "STRING($ff$ff$ff$ff)@0 END");
        Tapes.reads("<~5l~> <~6N~>", "STRING(A)@0 STRING(C)@7 END");
        Tapes.reads("<~9jn~> <~9jqo~>", "STRING(Ma)@0 STRING(Man)@8 END");
        Tapes.reads("<~ 9\0j\tq\no\f^\r~>", "STRING(Man$20)@0 END");
        Tapes.reads("<~!!~> <~!!!~> <~!!!!~>", "STRING($00)@0 STRING($00$00)@7 STRING($00$00$00)@15 END");
        Tapes.reads("<~s7~> <~s8V~> <~s8W,~>", "STRING($ff)@0 STRING($ff$ff)@7 STRING($ff$ff$ff)@15 END");
        // A filler of less, or of more, would carry into the bytes that are kept.
        Tapes.reads("<~5!\"D~> <~5!\"G~>", "STRING(>:$86)@0 STRING(>:$86)@9 END");
        // These begin or end other TOKENS, but are digits here.
        Tapes.reads("<~>>>>>~>", "STRING([N$05$19)@0 END");
        Tapes.reads("<~<<<<<~>", "STRING(U$02$04$bf)@0 END");
        Tapes.reads("<~!!!!%~>", "STRING($00$00$00$04)@0 END");
        Tapes.readsOpen("<~", "MORE");
        Tapes.readsOpen("<~z~", "MORE");
        Tapes.readsOpen("<~z~>", "STRING($00$00$00$00)@0 MORE");
    }

    private static void base85Wrong() {
        Tapes.reads("<~s8W-\"~>", "WRONG2@6 NAME(~)@7 WRONG3@8 END");
        Tapes.reads("<~uuuuu~>", "WRONG2@6 NAME(~)@7 WRONG3@8 END");
        Tapes.reads("<~!!z~>", "WRONG2@4 NAME(~)@5 WRONG3@6 END");
        Tapes.reads("<~!!!!z!", "WRONG2@6 NAME(!)@7 END");
        Tapes.reads("<~!~>", "WRONG2@3 WRONG3@4 END");
        Tapes.reads("<~!!!!!!~>", "WRONG2@8 WRONG3@9 END");
        Tapes.reads("<~s8~>", "WRONG2@4 WRONG3@5 END");
        Tapes.reads("<~s8W~>", "WRONG2@5 WRONG3@6 END");
        Tapes.reads("<~s8W-~>", "WRONG2@6 WRONG3@7 END");
        Tapes.reads("<~!!~x>", "WRONG2@5 WRONG3@6 END");
        Tapes.reads("<~~ >", "WRONG2@3 WRONG3@4 END");
        Tapes.reads("<~~~>", "WRONG2@3 WRONG3@4 END");
        Tapes.reads("<~!v", "WRONG2@3 END");
        Tapes.reads("<~{", "WRONG2@2 END");
        Tapes.reads("<~y", "WRONG2@2 END");
        Tapes.reads("<~\u0088", "WRONG2@2 END");
        Tapes.reads("<~\u000b", "WRONG2@2 END");
        Tapes.readsOpen("<~!~", "WRONG2@3 MORE");
        Tapes.readsOpen("<~s8~", "WRONG2@4 MORE");
        Tapes.readsOpen("<~uuuuu", "WRONG2@6 MORE");
        Tapes.readsOpen("<~w", "WRONG2@2 MORE");
    }

    private static void lengths() {
        String most = "a".repeat(400);
        Tapes.reads("(" + most + ")", "STRING(" + most + ")@0 END");
        Tapes.reads(" (" + most + "a)b", "WRONG1@1 NAME(b)@404 END");
        Tapes.reads("(" + most + "\\\n)", "STRING(" + most + ")@0 END");
        Tapes.reads("(" + most + "\\n)", "WRONG1@0 END");
        Tapes.reads("<" + "61".repeat(400) + ">", "STRING(" + most + ")@0 END");
        Tapes.reads("<" + "61".repeat(400) + "6>b", "WRONG1@0 NAME(b)@803 END");
        Tapes.reads("<~" + "z".repeat(100) + "~>", "STRING(" + "$00".repeat(400) + ")@0 END");
        Tapes.reads("<~" + "z".repeat(100) + "!!~>b", "WRONG1@0 NAME(b)@106 END");
        Tapes.reads("<~" + "z".repeat(101) + "~>b", "WRONG1@0 NAME(b)@105 END");
        Tapes.reads("<" + "61".repeat(401) + "g", "WRONG2@803 END");
        Tapes.reads("<~" + "z".repeat(101) + "~g", "WRONG2@104 END");
        Tapes.reads("<~" + "z".repeat(101) + "v", "WRONG2@103 END");
        Tapes.readsOpen("(" + most + "a", "MORE");
        Tapes.readsOpen("<~" + "z".repeat(101), "MORE");
    }

    private static void notWhole() {
        Tapes.reads(" (a(b)", "WRONG6@1 END");
        Tapes.reads("(a\\)", "WRONG6@0 END");
        Tapes.reads("(a\\", "WRONG6@0 END");
        Tapes.reads("(", "WRONG6@0 END");
        Tapes.reads("a <", "NAME(a)@0 WRONG6@2 END");
        Tapes.reads("<41 ", "WRONG6@0 END");
        Tapes.reads("<~", "WRONG6@0 END");
        Tapes.reads("<~z", "WRONG6@0 END");
        Tapes.reads("<~z~", "WRONG6@0 END");
        Tapes.reads("<~!", "WRONG6@0 END");
        Tapes.reads("(" + "a".repeat(401), "WRONG6@0 END");
        Tapes.reads("{(a", "{@0 WRONG6@1 WRONG6@0 END");
    }
}
