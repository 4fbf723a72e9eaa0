/** The Terms of WHITE, WORD, NUMBER, REAL, NAME, LITERAL and INSTANT. */
public final class WordTest {
    public static void main(String[] args) {
        white();
        endsOfWords();
        integers();
        numbersWithBase();
        reals();
        infiniteReals();
        names();
        slashed();
        longWords();
        Checks.done();
    }

    private static void white() {
        Tapes.reads("", "END");
        Tapes.reads("\0\t\n\f\r ", "END");
        Tapes.reads("% all ( of < it", "END");
        Tapes.reads("%a\nb%c\fd%e\re%f\0 \tg", "NAME(b)@3 NAME(d)@7 NAME(e)@11 END");
        Tapes.reads("%%a\n%\r%\f1", "NUMBER(1)@8 END");
        Tapes.reads("a\0b\tc\nd\fe\rf g",
                "NAME(a)@0 NAME(b)@2 NAME(c)@4 NAME(d)@6 NAME(e)@8 NAME(f)@10 NAME(g)@12 END");
        Tapes.readsOpen(" % a", "MORE");
        Tapes.readsOpen("", "MORE");
    }

    private static void endsOfWords() {
        Tapes.reads("a(b)c", "NAME(a)@0 STRING(b)@1 NAME(c)@4 END");
        Tapes.reads("a<41>b", "NAME(a)@0 STRING(A)@1 NAME(b)@5 END");
        Tapes.reads("a[b]c", "NAME(a)@0 [@1 NAME(b)@2 ]@3 NAME(c)@4 END");
        Tapes.reads("a{b}c", "NAME(a)@0 {@1 NAME(b)@2 }@3 NAME(c)@4 END");
        Tapes.reads("a/b//c%d", "NAME(a)@0 LITERAL(b)@1 INSTANT(c)@3 END");
        Tapes.reads("a>>b", "NAME(a)@0 >>@1 NAME(b)@3 END");
        Tapes.reads("a>b)c", "NAME(a)@0 WRONG3@1 NAME(b)@2 WRONG3@3 NAME(c)@4 END");
        Tapes.reads("5\u0088\u0005", "NUMBER(5)@0 NUMBER(5)@1 END");
        Tapes.reads("a\u009f", "NAME(a)@0 WRONG4@1 END");
        Tapes.reads("a\u0080b", "NAME(a)@0 WRONG4@1 NAME(b)@2 END");
        Tapes.reads("\u0001\b\u000b\u000e\u001f!\u007f\u00a0\u00ff", "NAME($01$08$0b$0e$1f!$7f$a0$ff)@0 END");
        Tapes.readsOpen("abc", "MORE");
        Tapes.readsOpen("abc ", "NAME(abc)@0 MORE");
    }

    private static void integers() {
        Tapes.reads("0 7 +7 -7 -0 007", "NUMBER(0)@0 NUMBER(7)@2 NUMBER(7)@4 NUMBER(-7)@7 NUMBER(0)@10 NUMBER(7)@13 END");
        Tapes.reads("2147483647 +2147483647 -2147483648",
                "NUMBER(2147483647)@0 NUMBER(2147483647)@11 NUMBER(-2147483648)@23 END");
        Tapes.reads("1089 98 -9", "NUMBER(1089)@0 NUMBER(98)@5 NUMBER(-9)@8 END");
        Tapes.reads("2147483648 -2147483649", "REAL(2.147483648E9)@0 REAL(-2.147483649E9)@11 END");
        Tapes.reads("4294967296 4294967301", "REAL(4.294967296E9)@0 REAL(4.294967301E9)@11 END");
        Tapes.reads("-00000000000000000000012", "NUMBER(-12)@0 END");
        Tapes.reads("18446744073709551617", "REAL(1.8446744073709552E19)@0 END");
        Tapes.reads("+ - ++1 1+ 1- --1 +-1 1a",
                "NAME(+)@0 NAME(-)@2 NAME(++1)@4 NAME(1+)@8 NAME(1-)@11 NAME(--1)@14 NAME(+-1)@18 NAME(1a)@22 END");
    }

    private static void numbersWithBase() {
        Tapes.reads("2#101 8#17 10#99 16#fF 36#zZ", "NUMBER(5)@0 NUMBER(15)@6 NUMBER(99)@11 NUMBER(255)@17 NUMBER(1295)@23 END");
        Tapes.reads("02#11 1#0 01#0 0#0 00#0 37#1 99#1 036#1",
                "NUMBER(3)@0 NAME(1#0)@6 NAME(01#0)@10 NAME(0#0)@15 NAME(00#0)@19 NAME(37#1)@24 NAME(99#1)@29 NAME(036#1)@34 END");
        Tapes.reads("2#2 8#8 10#a 16#g 35#z 35#y", "NAME(2#2)@0 NAME(8#8)@4 NAME(10#a)@8 NAME(16#g)@13 NAME(35#z)@18 NUMBER(34)@23 END");
        Tapes.reads("16# # #1 16#-1 +16#1 -8#1 16#1.0 16#1#1 16a1",
                "NAME(16#)@0 NAME(#)@4 NAME(#1)@6 NAME(16#-1)@9 NAME(+16#1)@15 NAME(-8#1)@21 NAME(16#1.0)@26 NAME(16#1#1)@33 NAME(16a1)@40 END");
        Tapes.reads("16#7fffffff 16#80000000 16#ffffffff", "NUMBER(2147483647)@0 NUMBER(-2147483648)@12 NUMBER(-1)@24 END");
        Tapes.reads("16#100000000 16#0000000000000001", "WRONG5@0 NUMBER(1)@13 END");
        Tapes.reads("10#4294967295 10#4294967296 10#99999999999999999999999999", "NUMBER(-1)@0 WRONG5@14 WRONG5@28 END");
        Tapes.reads("16#ffffffffffffffffffg", "NAME(16#ffffffffffffffffffg)@0 END");
        Tapes.reads("9#18 19#1i 1a#1 a#1 b#0", "NUMBER(17)@0 NUMBER(37)@5 NAME(1a#1)@11 NAME(a#1)@16 NAME(b#0)@20 END");
        Tapes.reads("36#aAzZ09", "NUMBER(" + Integer.parseInt("aazz09", 36) + ")@0 END");
        Tapes.reads("36#@ 36#[", "NAME(36#@)@0 NAME(36#)@5 [@8 END");
        Tapes.reads("36#` 11#: 36#{", "NAME(36#`)@0 NAME(11#:)@5 NAME(36#)@10 {@13 WRONG6@13 END");
    }

    private static void reals() {
        Tapes.reads("1.5 .5 5. -.5 +5. 0.0 -0.0 00.50",
                "REAL(1.5)@0 REAL(0.5)@4 REAL(5.0)@7 REAL(-0.5)@10 REAL(5.0)@14 REAL(0.0)@18 REAL(0.0)@22 REAL(0.5)@27 END");
        Tapes.reads("1e3 1E3 1e+3 1e-3 1.5e1 .5e1 5.e1 -1e0 1e000 1e-308",
                "REAL(1000.0)@0 REAL(1000.0)@4 REAL(1000.0)@8 REAL(0.001)@13 REAL(15.0)@18 REAL(5.0)@24 REAL(50.0)@29 "
                + "REAL(-1.0)@34 REAL(1.0)@39 REAL(" + divided(1.0, 308) + ")@45 END");
        Tapes.reads(". +. -. e .e1 e5 1e 1e+ 1e- 1e1234 1e1.5 1.2.3 1..2",
                "NAME(.)@0 NAME(+.)@2 NAME(-.)@5 NAME(e)@8 NAME(.e1)@10 NAME(e5)@14 NAME(1e)@17 NAME(1e+)@20 NAME(1e-)@24 "
                + "NAME(1e1234)@28 NAME(1e1.5)@35 NAME(1.2.3)@41 NAME(1..2)@47 END");
        Tapes.reads("1e++1 1e+-1 1f3 1.5+ 1-2 1e3a 1.a", "NAME(1e++1)@0 NAME(1e+-1)@6 NAME(1f3)@12 NAME(1.5+)@16 NAME(1-2)@21 NAME(1e3a)@25 NAME(1.a)@30 END");
        Tapes.reads("9.9 1.09e1", "REAL(9.9)@0 REAL(10.9)@4 END");
        Tapes.reads("123.456e-5 0.1 1e23 0e999 1e-999",
                "REAL(" + divided(123456.0, 8) + ")@0 REAL(" + 1.0 / 10.0 + ")@11 REAL(" + multiplied(1.0, 23) + ")@15 REAL(0.0)@20 REAL(0.0)@26 END");
        Tapes.reads("9999999999999999999.25", "REAL(" + divided(digits("999999999999999999925"), 2) + ")@0 END");
        // A point and a small exponent must meet in one count of steps, not in two.
        Tapes.reads("0.3e1 1.17e2", "REAL(3.0)@0 REAL(117.0)@6 END");
    }

    private static double multiplied(double value, int times) {
        double v = value;
        for (int i = 0; i < times; i++) {
            v = v * 10.0;
        }
        return v;
    }

    private static double divided(double value, int times) {
        double v = value;
        for (int i = 0; i < times; i++) {
            v = v / 10.0;
        }
        return v;
    }

    private static double digits(String text) {
        double v = 0.0;
        for (char c : text.toCharArray()) {
            v = v * 10.0 + (c - '0');
        }
        return v;
    }

    private static void infiniteReals() {
        Tapes.reads("1e308 1e309 -1e309 1e999", "REAL(" + multiplied(1.0, 308) + ")@0 WRONG5@6 WRONG5@12 WRONG5@19 END");
        Tapes.reads("1.7e308 1.8e308 -1.8e308", "REAL(" + multiplied(17.0, 307) + ")@0 WRONG5@8 WRONG5@16 END");
        Tapes.reads("1" + "0".repeat(99), "REAL(" + multiplied(1.0, 99) + ")@0 END");
    }

    private static void names() {
        Tapes.reads("abc $@!~ |\\^ \u007f", "NAME(abc)@0 NAME($@!~)@4 NAME(|\\^)@9 NAME($7f)@13 END");
    }

    private static void slashed() {
        Tapes.reads("/ab //cd", "LITERAL(ab)@0 INSTANT(cd)@4 END");
        Tapes.reads("/ // /", "LITERAL()@0 INSTANT()@2 LITERAL()@5 END");
        Tapes.reads("///a ////", "INSTANT()@0 LITERAL(a)@2 INSTANT()@5 INSTANT()@7 END");
        Tapes.reads("/1 /-1.5 //16#f", "LITERAL(1)@0 LITERAL(-1.5)@3 INSTANT(16#f)@9 END");
        Tapes.reads("/(a)//(b)", "LITERAL()@0 STRING(a)@1 INSTANT()@4 STRING(b)@6 END");
        Tapes.reads("/%a\n//%b", "LITERAL()@0 INSTANT()@4 END");
        Tapes.reads("/\u0088\u0001//\u0088\u0002", "LITERAL()@0 NUMBER(1)@1 INSTANT()@3 NUMBER(2)@5 END");
        Tapes.reads("/[//]", "LITERAL()@0 [@1 INSTANT()@2 ]@4 END");
        Tapes.readsOpen("/", "MORE");
        Tapes.readsOpen("//", "MORE");
        Tapes.readsOpen("/a", "MORE");
        Tapes.readsOpen("///", "INSTANT()@0 MORE");
    }

    private static void longWords() {
        String hundred = "a".repeat(100);
        Tapes.reads(hundred, "NAME(" + hundred + ")@0 END");
        Tapes.reads(" " + hundred + "a b", "WRONG1@1 NAME(b)@103 END");
        Tapes.reads("/" + hundred + " /" + hundred + "a", "LITERAL(" + hundred + ")@0 WRONG1@102 END");
        Tapes.reads("//" + hundred + " //" + hundred + "a", "INSTANT(" + hundred + ")@0 WRONG1@103 END");
        Tapes.reads("16#" + "f".repeat(97), "WRONG5@0 END");
        Tapes.reads("16#" + "f".repeat(98), "WRONG1@0 END");
        Tapes.reads("0".repeat(96) + "12e9" + " " + "0".repeat(96) + "1e999", "REAL(1.2E10)@0 WRONG1@101 END");
        Tapes.reads("0".repeat(98) + "12 " + "0".repeat(99) + "12", "NUMBER(12)@0 WRONG1@101 END");
        Tapes.reads("a".repeat(450) + " b", "WRONG1@0 NAME(b)@451 END");
        Tapes.readsOpen("a".repeat(101), "MORE");
        Tapes.readsOpen("/" + "a".repeat(101), "MORE");
        Tapes.readsOpen("a".repeat(101) + "(", "WRONG1@0 MORE");
    }
}
