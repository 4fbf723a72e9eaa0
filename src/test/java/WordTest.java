import java.math.BigInteger;
import java.util.Random;

/** The Terms of NUMBER, REAL, NAME, LITERAL and INSTANT. */
public final class WordTest {
    private static final String DIGITS = "0123456789abcdefghijklmnopqrstuvwxyz";

    public static void main(String[] args) {
        digitsWithSign();
        leastAndGreatest();
        integersHaveBaseTen();
        basesTwoToThirtySix();
        otherBases();
        oneOrTwoDigitsOfBase();
        digitsOfEachBase();
        oneDigitOrMore();
        aboveGreatest();
        tooGreatWithBase();
        realForms();
        oneDigitOfBoth();
        exponents();
        butNoNumber();
        digitsOfReals();
        stepsOfReals();
        minusOfReals();
        anyReals();
        infiniteReals();
        names();
        literals();
        instants();
        Checks.done();
    }

    private static void number(String word, long value) {
        Tapes.reads(word, "NUMBER(" + value + ")@0 END");
    }

    private static void real(String word, double value) {
        Tapes.reads(word, "REAL(" + value + ")@0 END");
    }

    private static void name(String word) {
        Tapes.reads(word, "NAME(" + Tapes.shown(word) + ")@0 END");
    }

    private static void digitsWithSign() {
        Checks.about("1 NUMBER: a WORD of perhaps + or -, and digits: its value");
        for (int value = 0; value < 1100; value++) {
            number("" + value, value);
            number("+" + value, value);
            number("-" + value, -value);
            number("00" + value, value);
            number("-0" + value, -value);
        }
        String[] none = {"+", "-", "++1", "--1", "+-1", "-+1", "1+", "1-", "1-1", "1a", "a1", "1_000", "1,0"};
        for (String word : none) {
            name(word);
        }
        for (int b = 33; b < 127; b++) {
            char c = (char) b;
            boolean digit = c >= '0' && c <= '9';
            boolean sign = c == '+' || c == '-';
            Checks.same("first byte " + c, digit || sign, Tapes.first(c + "7").startsWith("NUMBER("));
            Checks.same("second byte " + c, digit, Tapes.first("7" + c + "7").equals("NUMBER(7" + c + "7)@0"));
            Checks.same("second behind a sign " + c, digit, Tapes.first("-" + c).startsWith("NUMBER("));
        }
    }

    private static void leastAndGreatest() {
        Checks.about("if that is -2147483648 .. 2147483647");
        number("2147483646", 2147483646L);
        number("2147483647", 2147483647L);
        number("+2147483647", 2147483647L);
        number("-2147483647", -2147483647L);
        number("-2147483648", -2147483648L);
        number("-0000000000000000000002147483648", -2147483648L);
        number("0".repeat(90) + "2147483647", 2147483647L);
        real("2147483648", 2147483648.0);
        real("+2147483648", 2147483648.0);
        real("-2147483649", -2147483649.0);
        real("0".repeat(90) + "2147483648", 2147483648.0);
        // These come back into the bounds where 32 or 64 bits are counted round.
        real("4294967295", 4294967295.0);
        real("4294967296", 4294967296.0);
        real("4294967303", 4294967303.0);
        real("-4294967303", -4294967303.0);
        real("9223372036854775808", byDigits("9223372036854775808"));
        real("18446744073709551616", byDigits("18446744073709551616"));
        real("18446744073709551623", byDigits("18446744073709551623"));
        real("-18446744073709551623", 0.0 - byDigits("18446744073709551623"));
    }

    private static int baseBehind(String words) {
        TokenReader reader = Tapes.fed(words);
        while (reader.next() != 0) {
            Checks.same("is read", true, reader.place() >= 0);
        }
        return reader.base();
    }

    private static void integersHaveBaseTen() {
        Checks.about("with BASE 10");
        Checks.same("behind another", 10, baseBehind("16#f 7 "));
        Checks.same("behind 2", 10, baseBehind("2#1 -2147483648 "));
        Checks.same("10 itself", 10, baseBehind("36#z 10#7 "));
        Checks.same("one above is a REAL", 16, baseBehind("16#f 2147483648 "));
        Checks.same("one below is a REAL", 16, baseBehind("16#f -2147483649 "));
    }

    private static void basesTwoToThirtySix() {
        Checks.about("(the BASE, 2 .. 36)");
        for (int base = 2; base <= 36; base++) {
            number(base + "#10", base);
            Checks.same("base", base, baseBehind(base + "#1 "));
            Checks.same("base behind another", base, baseBehind("7#1 " + base + "#1 "));
        }
    }

    private static void otherBases() {
        Checks.about("BASE, 2 .. 36");
        for (int base = 0; base <= 99; base++) {
            if (base < 2 || base > 36) {
                name(base + "#0");
                name(base + "#1");
                Checks.same("base stays", 7, baseBehind("7#1 " + base + "#0 "));
            }
        }
    }

    private static void oneOrTwoDigitsOfBase() {
        Checks.about("Or a WORD of one or two digits");
        for (int base = 2; base <= 9; base++) {
            number("0" + base + "#11", base + 1);
            Checks.same("base of 0" + base, base, baseBehind("0" + base + "#1 "));
            name("00" + base + "#1");
        }
        String[] none = {"#1", "##1", "00#0", "01#0", "010#1", "016#f", "100#1", "160#1", "256#1", "266#1", "4294967298#1",
            "+8#1", "-8#1", "+16#1", "1a#1", "a#1", "f#1", "g1#1", "1.#1", "8.0#1", ".8#1", "0#", "37#"};
        for (String word : none) {
            name(word);
        }
    }

    private static void digitsOfEachBase() {
        Checks.about("# and one digit or more of that BASE (letters of both sizes from 10 on)");
        for (int base = 2; base <= 36; base++) {
            for (int digit = 0; digit < 36; digit++) {
                String low = base + "#" + DIGITS.charAt(digit);
                String high = base + "#" + DIGITS.toUpperCase().charAt(digit);
                if (digit < base) {
                    number(low, digit);
                    number(high, digit);
                    number(base + "#1" + DIGITS.charAt(digit), base + digit);
                } else {
                    name(low);
                    name(high);
                    name(base + "#1" + DIGITS.charAt(digit) + "0");
                }
            }
        }
        for (int b = 33; b < 256; b++) {
            char c = (char) b;
            int digit = DIGITS.indexOf(c < 128 ? Character.toLowerCase(c) : c);
            String others = Tapes.isPlain(b) ? "NAME(36#1" + Tapes.shown("" + c) + ")@0" : "NUMBER(1)@0";
            String due = digit >= 0 ? "NUMBER(" + (36 + digit) + ")@0" : others;
            Checks.same("digit " + b, due, Tapes.first("36#1" + c));
        }
        number("36#aAzZ09", Long.parseLong("aazz09", 36));
    }

    private static void oneDigitOrMore() {
        Checks.about("one digit or more of that BASE");
        String[] none = {"2#", "16#", "36#", "8#-1", "8#+1", "16#1.0", "16#.1", "16#1#1", "16##1", "2#1e1", "16#-"};
        for (String word : none) {
            name(word);
        }
        number("16#0", 0L);
        number("16#" + "0".repeat(97), 0L);
        number("16#" + "0".repeat(96) + "7", 7L);
        number("02#" + "0".repeat(96) + "1", 1L);
        number("16#1e1", 481L);
        // A long row of digits is no less a NAME for one byte that is none.
        name("16#" + "f".repeat(96) + "g");
    }

    private static String inBase(int base, String value) {
        return base + "#" + new BigInteger(value).toString(base);
    }

    private static void aboveGreatest() {
        Checks.about("the value, above 2147483647 less 4294967296");
        for (int base = 2; base <= 36; base++) {
            number(inBase(base, "2147483646"), 2147483646L);
            number(inBase(base, "2147483647"), 2147483647L);
            number(inBase(base, "2147483648"), -2147483648L);
            number(inBase(base, "2147483649"), -2147483647L);
            number(inBase(base, "4294967294"), -2L);
            number(inBase(base, "4294967295"), -1L);
            number(base + "#000" + new BigInteger("4294967295").toString(base), -1L);
        }
        number("16#FFFFffff", -1L);
        number("16#80000000", -2147483648L);
    }

    private static void tooGreatWithBase() {
        Checks.about("from 4294967296 on it is WRONG (5)");
        String[] values = {"4294967296", "4294967297", "4294967303", "8589934592", "9223372036854775807",
            "9223372036854775808", "18446744073709551615", "18446744073709551616", "18446744073709551623",
            "340282366920938463463374607431768211456"};
        for (int base = 2; base <= 36; base++) {
            for (String value : values) {
                String word = inBase(base, value);
                boolean fits = word.length() <= 100;
                Tapes.reads("[" + word + " 7", "[@0 WRONG" + (fits ? 5 : 1) + "@1 NUMBER(7)@" + (word.length() + 2) + " END");
            }
        }
        Tapes.reads("36#" + "z".repeat(97), "WRONG5@0 END");
        Tapes.reads("2#1" + "0".repeat(96), "WRONG5@0 END");
        Checks.same("base stays", 7, baseBehind("7#1 16#100000000 "));
    }

    private static void realForms() {
        Checks.about("2 REAL: a WORD of perhaps + or -, digits, perhaps a point and digits");
        real("1.5", 1.5);
        real("+1.5", 1.5);
        real("-1.5", -1.5);
        real("5.", 5.0);
        real(".5", 0.5);
        real("-.5", -0.5);
        real("+5.", 5.0);
        real("00.50", 0.5);
        real("0.0", 0.0);
        String[] none = {"1.2.3", "1..2", "..1", "1.a", "1.+5", "1.5+", "--1.5", "+-1.5", "1,5", "1.5f", "a1.5", "1.5a", "0x1.5"};
        for (String word : none) {
            name(word);
        }
    }

    private static void oneDigitOfBoth() {
        Checks.about("(one digit at least of both)");
        String[] none = {".", "+.", "-.", ".e1", "-.e1", ".E+10", "e1", "+e1", "E5", "e", "+", "-"};
        for (String word : none) {
            name(word);
        }
        real("0.", 0.0);
        real(".0", 0.0);
        real("-.0e1", 0.0);
        real("7.e1", 70.0);
        real(".7e1", 0.7e1);
    }

    private static void exponents() {
        Checks.about("perhaps E or e, perhaps + or -, and one to three digits");
        String[] ahead = {"3", "3.", "3.0"};
        for (String digits : ahead) {
            for (String letter : new String[] {"e", "E"}) {
                real(digits + letter + "2", 300.0);
                real(digits + letter + "+2", 300.0);
                real(digits + letter + "02", 300.0);
                real(digits + letter + "002", 300.0);
                real(digits + letter + "+002", 300.0);
                real(digits + letter + "-1", 3.0 / 10.0);
                real(digits + letter + "-01", 3.0 / 10.0);
                real(digits + letter + "-001", 3.0 / 10.0);
                real(digits + letter + "0", 3.0);
                real(digits + letter + "-000", 3.0);
                String[] none = {"", "+", "-", "0002", "+0000", "-0002", "1234", "++1", "+-1", "2.0", "2e2", ".2", "a", "1a", "2+", "2-2"};
                for (String exponent : none) {
                    name(digits + letter + exponent);
                }
            }
            for (int b = 33; b < 127; b++) {
                boolean letter = b == 'e' || b == 'E';
                if (!(b >= '0' && b <= '9' || b == '.' || b == '#')) {
                    Checks.same("letter " + b, letter, Tapes.first(digits + (char) b + "2").equals("REAL(300.0)@0"));
                }
            }
        }
    }

    private static void butNoNumber() {
        Checks.about("but no NUMBER");
        number("1", 1L);
        number("-2147483648", -2147483648L);
        real("2147483648", 2147483648.0);
        real("1e0", 1.0);
        real("1.", 1.0);
        real("-2147483649", -2147483649.0);
        real("0e0", 0.0);
    }

    private static double byDigits(String digits) {
        double v = 0.0;
        for (int i = 0; i < digits.length(); i++) {
            v = v * 10.0 + (digits.charAt(i) - '0');
        }
        return v;
    }

    private static double stepped(double start, int times) {
        double v = start;
        for (int i = 0; i < times; i++) {
            v = v * 10.0;
        }
        for (int i = times; i < 0; i++) {
            v = v / 10.0;
        }
        return v;
    }

    private static void digitsOfReals() {
        Checks.about("Its value: v = 0.0; by each digit (of both) v = v * 10.0 + digit");
        real("9007199254740993", byDigits("9007199254740993"));
        real("99999999999999999999999", byDigits("99999999999999999999999"));
        real("1" + "0".repeat(99), byDigits("1" + "0".repeat(99)));
        real("9".repeat(100), byDigits("9".repeat(100)));
        real("9999999999999999999.25", byDigits("999999999999999999925") / 10.0 / 10.0);
        real("12.34", byDigits("1234") / 10.0 / 10.0);
        // The digits behind the point are no sum of their own.
        real("0.123456789", stepped(123456789.0, -9));
        real("9.9", 99.0 / 10.0);
    }

    private static void stepsOfReals() {
        Checks.about("then, as many times as the exponent less the digits behind the point is, v = v * 10.0, or, below 0, v = v / 10.0");
        for (int exponent = -999; exponent <= 308; exponent++) {
            real("1e" + exponent, stepped(1.0, exponent));
            real("1.7e" + exponent, stepped(17.0, exponent - 1));
        }
        real("1.7e1", 17.0);
        real("1.7e2", 170.0);
        real("1.7e0", 17.0 / 10.0);
        real("0.3e1", 3.0);
        real("1.17e2", 117.0);
        real("123.456e-5", stepped(123456.0, -8));
        real("1e23", stepped(1.0, 23));
        real("1.000e3", 1000.0);
        real("1e-999", 0.0);
        real("0e999", 0.0);
        real("." + "0".repeat(94) + "1e95", 1.0);
    }

    private static void minusOfReals() {
        Checks.about("with - it is 0.0 - v");
        real("-1.5", -1.5);
        real("-2147483649", -2147483649.0);
        real("-1e-5", 0.0 - stepped(1.0, -5));
        String[] zeros = {"-0.0", "-0e0", "-.0", "-0.", "-1e-999", "+0.0", "0.0"};
        for (String zero : zeros) {
            TokenReader reader = Tapes.fed(zero + " ");
            Checks.same("a REAL " + zero, 2, reader.next());
            Checks.same("0.0 - 0.0 has no sign: " + zero, 0L, Double.doubleToRawLongBits(reader.real()));
        }
    }

    private static void anyReals() {
        Checks.about("Its value: v = 0.0");
        Random random = new Random(11);
        for (int run = 0; run < 2000; run++) {
            String whole = "" + random.nextInt(1000000);
            String part = "" + random.nextInt(100000);
            int exponent = random.nextInt(500) - 250;
            double v = stepped(byDigits(whole + part), exponent - part.length());
            boolean minus = random.nextBoolean();
            real((minus ? "-" : "") + whole + "." + part + "e" + exponent, minus ? 0.0 - v : v);
        }
    }

    private static void infiniteReals() {
        Checks.about("Infinite ones are WRONG (5).");
        real("1e308", stepped(1.0, 308));
        real("1.7e308", stepped(17.0, 307));
        real("179e306", stepped(179.0, 306));
        real("1797693134862316e293", stepped(1797693134862316.0, 293));
        real("-1797693134862316e293", 0.0 - stepped(1797693134862316.0, 293));
        Checks.same("the last finite one", true, stepped(1797693134862316.0, 293) > 1.797693134862314E308);
        String[] infinite = {"180e306", "1797693134862317e293", "-1797693134862317e293", "1e309", "+1e309", "-1e309",
            "1.8e308", "-1.8e308", "1e999", "-1e999", "0.1e310", "10e308", "9".repeat(95) + "e214"};
        for (String word : infinite) {
            Tapes.reads("[" + word + " 7", "[@0 WRONG5@1 NUMBER(7)@" + (word.length() + 2) + " END");
            Tapes.readsOpen(word, "MORE");
        }
    }

    private static void names() {
        Checks.about("3 NAME: any other WORD.");
        Tapes.reads("abc $@!~ |\\^ \u007f", "NAME(abc)@0 NAME($@!~)@4 NAME(|\\^)@9 NAME($7f)@13 END");
        for (int b = 0; b < 256; b++) {
            String told = Tapes.first(Tapes.bytes(b));
            if (b >= '0' && b <= '9') {
                Checks.same("one byte " + b, "NUMBER(" + (b - '0') + ")@0", told);
            } else if (Tapes.isPlain(b)) {
                Checks.same("one byte " + b, "NAME(" + Tapes.shown(Tapes.bytes(b)) + ")@0", told);
            } else {
                Checks.same("no NAME " + b, false, told.startsWith("NAME("));
            }
        }
    }

    private static void literals() {
        Checks.about("4 LITERAL: / and a WORD, or none.");
        Tapes.reads("/ab", "LITERAL(ab)@0 END");
        Tapes.reads("/ab /c /", "LITERAL(ab)@0 LITERAL(c)@4 LITERAL()@7 END");
        Tapes.reads("/ ab", "LITERAL()@0 NAME(ab)@2 END");
        Tapes.reads("/1 /-1.5 /16#f /1e5 /16#100000000 /1e999",
                "LITERAL(1)@0 LITERAL(-1.5)@3 LITERAL(16#f)@9 LITERAL(1e5)@15 LITERAL(16#100000000)@20 LITERAL(1e999)@34 END");
        Tapes.reads("/(a)/<41>/[/]/{/}/<</>>",
                "LITERAL()@0 STRING(a)@1 LITERAL()@4 STRING(A)@5 LITERAL()@9 [@10 LITERAL()@11 ]@12 LITERAL()@13 {@14 "
                + "LITERAL()@15 }@16 LITERAL()@17 <<@18 LITERAL()@20 >>@21 END");
        Tapes.reads("/a/b", "LITERAL(a)@0 LITERAL(b)@2 END");
        Tapes.reads("/\u0088\u0001", "LITERAL()@0 NUMBER(1)@1 END");
        Checks.same("its BASE is none", 16, baseBehind("16#f /8#7 /7 "));
    }

    private static void instants() {
        Checks.about("5 INSTANT: // and a WORD, or none.");
        Tapes.reads("//ab", "INSTANT(ab)@0 END");
        Tapes.reads("//", "INSTANT()@0 END");
        Tapes.reads("// /", "INSTANT()@0 LITERAL()@3 END");
        Tapes.reads("/ /", "LITERAL()@0 LITERAL()@2 END");
        Tapes.reads("///", "INSTANT()@0 LITERAL()@2 END");
        Tapes.reads("////", "INSTANT()@0 INSTANT()@2 END");
        Tapes.reads("///a /////b", "INSTANT()@0 LITERAL(a)@2 INSTANT()@5 INSTANT()@7 LITERAL(b)@9 END");
        Tapes.reads("//16#f //1.5", "INSTANT(16#f)@0 INSTANT(1.5)@7 END");
        Tapes.reads("//(b)//[]//\u0088\u0002", "INSTANT()@0 STRING(b)@2 INSTANT()@5 [@7 ]@8 INSTANT()@9 NUMBER(2)@11 END");
        Tapes.reads("/%\n/", "LITERAL()@0 LITERAL()@3 END");
    }
}
