/** The Terms of BINARY TOKENS. */
public final class BinaryTest {
    public static void main(String[] args) {
        numbers();
        fixed();
        fixedForms();
        floats();
        truths();
        strings();
        numbered();
        rows();
        rowForms();
        longRows();
        wrongFloatsInRows();
        others();
        notWhole();
        Checks.done();
    }

    private static void reads(String want, int... bytes) {
        Tapes.reads(Tapes.bytes(bytes), want);
    }

    private static void readsOpen(String want, int... bytes) {
        Tapes.readsOpen(Tapes.bytes(bytes), want);
    }

    private static void numbers() {
        reads("NUMBER(16909060)@0 END", 132, 1, 2, 3, 4);
        reads("NUMBER(67305985)@0 END", 133, 1, 2, 3, 4);
        reads("NUMBER(-2)@0 NUMBER(-2147483648)@5 END", 132, 255, 255, 255, 254, 132, 128, 0, 0, 0);
        reads("NUMBER(-16777217)@0 NUMBER(2147483647)@5 END", 133, 255, 255, 255, 254, 133, 255, 255, 255, 127);
        reads("NUMBER(258)@0 NUMBER(-1)@3 NUMBER(-32768)@6 END", 134, 1, 2, 134, 255, 255, 134, 128, 0);
        reads("NUMBER(513)@0 NUMBER(32767)@3 NUMBER(128)@6 END", 135, 1, 2, 135, 255, 127, 135, 128, 0);
        reads("NUMBER(127)@0 NUMBER(-128)@2 NUMBER(-1)@4 NUMBER(0)@6 END", 136, 127, 136, 128, 136, 255, 136, 0);
        reads("NUMBER(32)@2 NAME(a)@4 END", 32, 10, 136, 32, 'a');
    }

    private static void fixed() {
        reads("REAL(1.690906E7)@0 END", 137, 0, 1, 2, 3, 4);
        reads("REAL(6.7305985E7)@0 END", 137, 128, 1, 2, 3, 4);
        reads("REAL(1.5)@0 REAL(-1.5)@6 END", 137, 1, 0, 0, 0, 3, 137, 1, 255, 255, 255, 253);
        reads("REAL(" + 1.0 / 2147483648.0 + ")@0 REAL(-1.0)@6 END", 137, 31, 0, 0, 0, 1, 137, 31, 128, 0, 0, 0);
        reads("REAL(0.25)@0 END", 137, 130, 1, 0, 0, 0);
        reads("REAL(258.0)@0 REAL(-1.0)@4 END", 137, 32, 1, 2, 137, 32, 255, 255);
        reads("REAL(513.0)@0 END", 137, 160, 1, 2);
        reads("REAL(" + 1.0 / 32768.0 + ")@0 REAL(-1.0)@4 END", 137, 47, 0, 1, 137, 47, 128, 0);
        reads("REAL(0.5)@0 REAL(0.0)@4 END", 137, 175, 0, 64, 137, 33, 0, 0);
    }

    private static void fixedForms() {
        for (int form = 0; form < 256; form++) {
            int plain = form & 127;
            if (plain < 32) {
                reads("REAL(" + 1.0 / (1L << plain) + ")@0 END", inOrder(form, 137, 0, 0, 0, 1));
            } else if (plain < 48) {
                reads("REAL(" + 1.0 / (1L << plain - 32) + ")@0 END", inOrder(form, 137, 0, 1));
            } else {
                reads("WRONG4@2 NUMBER(7)@3 END", ' ', 137, form, '7');
            }
        }
    }

    /** A BINARY TOKEN of a form, its number's bytes told with the highest first. */
    private static int[] inOrder(int form, int first, int... highestFirst) {
        int count = highestFirst.length;
        int[] bytes = new int[2 + count];
        bytes[0] = first;
        bytes[1] = form;
        for (int i = 0; i < count; i++) {
            bytes[2 + i] = highestFirst[form >= 128 ? count - 1 - i : i];
        }
        return bytes;
    }

    private static void floats() {
        float[] values = {1.0f, -1.0f, 0.1f, -123.456f, Float.MAX_VALUE, -Float.MAX_VALUE, Float.MIN_NORMAL,
            -Float.MIN_NORMAL, Float.MIN_VALUE, -Float.MIN_VALUE, 1.1754942E-38f, 16777215f, 8388608f, 0.0f, 2.0f, 3.4E-39f};
        for (float value : values) {
            int bits = Float.floatToIntBits(value);
            reads("REAL(" + (double) value + ")@0 END", 138, bits >> 24, bits >> 16, bits >> 8, bits);
            reads("REAL(" + (double) value + ")@0 END", 139, bits, bits >> 8, bits >> 16, bits >> 24);
        }
        // 0.0 less 0.0 has no sign.
        reads("REAL(0.0)@0 REAL(0.0)@5 END", 138, 128, 0, 0, 0, 139, 0, 0, 0, 128);
        reads("WRONG5@1 NUMBER(1)@6 END", 32, 138, 127, 128, 0, 0, '1');
        reads("WRONG5@0 WRONG5@5 END", 138, 255, 128, 0, 0, 138, 127, 255, 255, 255);
        reads("WRONG5@0 WRONG5@5 END", 139, 0, 0, 128, 127, 139, 1, 0, 128, 255);
        readsOpen("MORE", 138, 127, 128, 0);
    }

    private static void truths() {
        reads("TRUTH(0)@0 TRUTH(1)@2 END", 141, 0, 141, 1);
        reads("WRONG4@1 NUMBER(5)@2 END", 141, 2, '5');
        reads("WRONG4@2 END", ' ', 141, 255);
        reads("WRONG4@1 END", 141, '1');
    }

    private static void strings() {
        reads("STRING()@0 END", 142, 0);
        reads("STRING(a)b$ff)@0 NAME(c)@6 END", 142, 4, 'a', ')', 'b', 255, 'c');
        reads("STRING($0d\\$0a)@0 END", 142, 3, 13, '\\', 10);
        reads("STRING(ab)@0 STRING(ab)@5 END", 143, 0, 2, 'a', 'b', 144, 2, 0, 'a', 'b');
        reads("STRING()@0 STRING()@3 END", 143, 0, 0, 144, 0, 0);
        String head = Tapes.bytes(142, 255);
        Tapes.reads(head + "x".repeat(256), "STRING(" + "x".repeat(255) + ")@0 NAME(x)@257 END");
        Tapes.reads(Tapes.bytes(143, 1, 144) + "x".repeat(400), "STRING(" + "x".repeat(400) + ")@0 END");
        Tapes.reads(Tapes.bytes(144, 144, 1) + "x".repeat(400), "STRING(" + "x".repeat(400) + ")@0 END");
        Tapes.reads(Tapes.bytes(32, 143, 1, 145) + "x".repeat(401) + "1", "WRONG1@1 NUMBER(1)@405 END");
        Tapes.reads(Tapes.bytes(144, 145, 1) + "x".repeat(401) + "1", "WRONG1@0 NUMBER(1)@404 END");
        Tapes.readsOpen(Tapes.bytes(143, 1, 145) + "x".repeat(400), "MORE");
        Tapes.reads(Tapes.bytes(143, 1, 145) + "x".repeat(400), "WRONG6@0 END");
        Tapes.reads(Tapes.bytes(143, 255, 255) + "x".repeat(450), "WRONG6@0 END");
    }

    private static void numbered() {
        reads("LITERALNO(0)@0 LITERALNO(255)@2 END", 145, 0, 145, 255);
        reads("NAMENO(7)@0 NAMENO(128)@2 END", 146, 7, 146, 128);
    }

    private static void rows() {
        reads("ROW()@0 ROW()@4 END", 149, 0, 0, 0, 149, 176, 0, 0);
        reads("ROW(16909060,-1)@0 END", 149, 0, 0, 2, 1, 2, 3, 4, 255, 255, 255, 255);
        reads("ROW(67305985)@0 NAME(a)@8 END", 149, 128, 1, 0, 1, 2, 3, 4, 'a');
        reads("ROW(258,-2)@0 END", 149, 32, 0, 2, 1, 2, 255, 254);
        reads("ROW(513,-257)@0 END", 149, 160, 2, 0, 1, 2, 255, 254);
        reads("ROW(0.5,-0.5,0.0)@0 END", 149, 33, 0, 3, 0, 1, 255, 255, 0, 0);
        reads("ROW(2.0)@0 END", 149, 130, 1, 0, 8, 0, 0, 0);
        reads("ROW(1.0,-2.0)@0 END", 149, 48, 0, 2, 63, 128, 0, 0, 192, 0, 0, 0);
        reads("ROW(1.0,-2.0)@0 END", 149, 176, 2, 0, 0, 0, 128, 63, 0, 0, 0, 192);
        readsOpen("MORE", 149, 32, 0, 2, 1, 2, 255);
        readsOpen("MORE", 149, 32, 0);
    }

    private static void rowForms() {
        for (int form = 0; form < 256; form++) {
            int plain = form & 127;
            String one = plain == 0 || plain == 32 ? "1" : String.valueOf(1.0 / (1L << (plain & 31)));
            if (plain < 32) {
                reads("ROW(" + one + ")@0 END", rowOfOne(form, 0, 0, 0, 1));
            } else if (plain < 48) {
                reads("ROW(" + one + ")@0 END", rowOfOne(form, 0, 1));
            } else if (plain == 48) {
                reads("ROW(1.0)@0 END", rowOfOne(form, 63, 128, 0, 0));
            } else {
                reads("WRONG4@2 NUMBER(7)@3 END", ' ', 149, form, '7');
            }
        }
    }

    private static int[] rowOfOne(int form, int... highestFirst) {
        int count = highestFirst.length;
        int[] bytes = new int[4 + count];
        bytes[0] = 149;
        bytes[1] = form;
        bytes[form >= 128 ? 2 : 3] = 1;
        for (int i = 0; i < count; i++) {
            bytes[4 + i] = highestFirst[form >= 128 ? count - 1 - i : i];
        }
        return bytes;
    }

    private static void longRows() {
        String sixty = "3" + ",3".repeat(59);
        Tapes.reads(Tapes.bytes(149, 32, 0, 60) + "\0\3".repeat(60), "ROW(" + sixty + ")@0 END");
        Tapes.reads(Tapes.bytes(149, 0, 0, 60) + "\0\0\0\3".repeat(60), "ROW(" + sixty + ")@0 END");
        Tapes.reads(Tapes.bytes(32, 149, 32, 0, 61) + "\0\3".repeat(61) + "1", "WRONG1@1 NUMBER(1)@127 END");
        Tapes.reads(Tapes.bytes(149, 160, 61, 0) + "\3\0".repeat(61) + "1", "WRONG1@0 NUMBER(1)@126 END");
        Tapes.readsOpen(Tapes.bytes(149, 32, 0, 61) + "\0\3".repeat(60), "MORE");
        Tapes.reads(Tapes.bytes(149, 32, 0, 61) + "\0\3".repeat(60), "WRONG6@0 END");
        Tapes.readsOpen(Tapes.bytes(149, 32, 255, 255) + "\0\3".repeat(60), "MORE");
        Tapes.reads(Tapes.bytes(149, 0, 255, 255) + "\0\3".repeat(60), "WRONG6@0 END");
    }

    private static void wrongFloatsInRows() {
        reads("WRONG5@1 NUMBER(1)@13 END", 32, 149, 48, 0, 2, 63, 128, 0, 0, 127, 128, 0, 0, '1');
        reads("WRONG5@0 NUMBER(1)@12 END", 149, 176, 2, 0, 1, 2, 128, 255, 0, 0, 128, 63, '1');
        readsOpen("MORE", 149, 48, 0, 2, 127, 128, 0, 0, 127, 128, 0);
        String infinite = Tapes.bytes(127, 128, 0, 0);
        Tapes.reads(Tapes.bytes(149, 48, 0, 61) + infinite.repeat(61), "WRONG1@0 END");
    }

    private static void others() {
        int[] wrong = {128, 129, 130, 131, 140, 147, 148, 150, 151, 152, 153, 154, 155, 156, 157, 158, 159};
        for (int first : wrong) {
            reads("WRONG4@1 NUMBER(1)@2 END", 32, first, '1');
            readsOpen("WRONG4@0 MORE", first);
        }
        reads("NAME($a0)@0 END", 160);
    }

    private static void notWhole() {
        int[] firsts = {132, 133, 134, 135, 136, 137, 138, 139, 141, 142, 143, 144, 145, 146, 149};
        for (int first : firsts) {
            reads("WRONG6@1 END", 32, first);
            readsOpen("MORE", 32, first);
        }
        reads("WRONG6@0 END", 132, 1, 2, 3);
        reads("WRONG6@0 END", 134, 1);
        reads("WRONG6@0 END", 137, 0, 1, 2, 3);
        reads("WRONG6@0 END", 137, 32, 1);
        reads("WRONG6@0 END", 139, 0, 0, 255);
        reads("WRONG6@0 END", 142, 3, 'a', 'b');
        reads("WRONG6@0 END", 143, 0);
        reads("WRONG6@0 END", 149, 0);
        reads("WRONG6@0 END", 149, 0, 0, 1, 0, 0, 0);
        reads("WRONG4@1 END", 149, 49);
        reads("WRONG4@1 END", 137, 48);
        readsOpen("WRONG4@1 MORE", 149, 177);
        readsOpen("WRONG4@1 MORE", 137, 176);
        readsOpen("WRONG4@1 MORE", 141, 2);
    }
}
