/** Promises 4 and 5: each FAULT that the document names, at its place. */
public final class FaultTest {
    public static void main(String[] args) {
        heads();
        constants();
        classes();
        methodHeads();
        attributes();
        codeAttributes();
        opcodes();
        switches();
        calls();
        distances();
        flows();
        order();
        Due.close();
    }

    /** A file in pieces, so that each can be broken by itself. */
    private static final class Parts {
        byte[] head = new Bytes().w(0xcafebabe).h(0, 0x31).all();
        byte[] constants = new Bytes().h(9).b(1).text("T").b(1).text("java/lang/Object").b(7).h(1).b(7).h(2)
            .b(1).text("f").b(1).text("()V").b(1).text("Code").b(3).w(70000).all();
        byte[] type = new Bytes().h(0x21, 3, 4, 0, 0).all();
        byte[] count = new Bytes().h(1).all();
        byte[] method = new Bytes().h(9, 5, 6).all();
        byte[] attributes = new Bytes().h(1, 7).w(13).h(2, 1).w(1).b(0xb1).h(0, 0).all();
        byte[] end = new Bytes().h(0).all();

        byte[] file() {
            return new Bytes().raw(head).raw(constants).raw(type).raw(count).raw(method).raw(attributes).raw(end).all();
        }

        int typeAt() {
            return head.length + constants.length;
        }

        int countAt() {
            return typeAt() + type.length;
        }

        int methodAt() {
            return countAt() + count.length;
        }

        int attributesAt() {
            return methodAt() + method.length;
        }

        int endAt() {
            return attributesAt() + attributes.length;
        }

        void is(String what, int place) {
            Mills.loadIs(what, file(), -1, place);
        }

        void right(String what) {
            Mills.loadIs(what, file(), 1, -1);
        }

        void lacks(String what) {
            is(what, file().length);
        }
    }

    private static void heads() {
        new Parts().right("a whole file");
        Parts parts = new Parts();
        parts.head = new Bytes().w(0xcafebabf).h(0, 0x31).all();
        parts.is("magic", 0);
        parts.head = new Bytes().w(0xcafebabe).h(1, 0x31).all();
        parts.is("minor", 4);
        parts.head = new Bytes().w(0xcafebabe).h(0, 0x32).all();
        parts.is("major", 6);
        parts.head = new Bytes().w(0xcafebabe).h(0, 31).all();
        parts.is("major in base 10", 6);
        byte[] file = new Parts().file();
        for (int n = 0; n < file.length; n++) {
            Mills.loadIs("cut to " + n, java.util.Arrays.copyOf(file, n), -1, n);
        }
        Mills.loadIs("one byte more", java.util.Arrays.copyOf(file, file.length + 1), -1, file.length);
        Mills.loadIs("wrong and too short", new byte[] {1, 2, 3}, -1, 3);
    }

    private static void constants() {
        for (int n : new int[] {0, 1, 102, 65535}) {
            Parts parts = new Parts();
            parts.constants = new Bytes().h(n).b(1).text("T").all();
            parts.is(n + " constants", 8);
        }
        Parts parts = new Parts();
        Bytes many = new Bytes().h(101).raw(java.util.Arrays.copyOfRange(parts.constants, 2, parts.constants.length));
        for (int i = 9; i <= 100; i++) {
            many.b(3).w(i);
        }
        parts.constants = many.all();
        parts.right("100 constants");
        for (int tag : new int[] {0, 2, 4, 5, 6, 8, 9, 11, 13, 255}) {
            parts = new Parts();
            parts.constants[2] = (byte) tag;
            parts.is("tag " + tag, 10);
        }
        parts = new Parts();
        parts.constants = new Bytes().h(3).b(1).h(3).b(0x41, 0x80, 0x41).b(99).all();
        parts.is("byte 80 of a text", 14);
        parts.constants = new Bytes().h(3).b(1).h(3).b(0x41, 0x41, 0).b(99).all();
        parts.is("byte 00 of a text", 15);
        parts.constants = new Bytes().h(3).b(1).h(60000).b(0x80).all();
        parts.lacks("a text longer than what is left");
        parts = new Parts();
        parts.constants = new Bytes().h(4).b(7).h(3).b(1).text("T").b(99).all();
        parts.is("a wrong tag comes before a wrong number", 17);
        // Numbers in CONSTANTS are looked at behind all of them: 3 is no TEXT, and 9 none at all.
        int[][] wrong = {{7, 4, -1}, {7, 9, -1}, {7, 0, -1}, {0xc, 8, 1}, {0xc, 1, 8}, {0xa, 1, 1}, {0xa, 3, 1}, {0xa, 9, 10}};
        for (int[] one : wrong) {
            Parts bad = new Parts();
            int at = bad.head.length + bad.constants.length;
            Bytes more = new Bytes().h(10).raw(java.util.Arrays.copyOfRange(bad.constants, 2, bad.constants.length)).b(one[0]).h(one[1]);
            if (one[2] >= 0) {
                more.h(one[2]);
            }
            bad.constants = more.all();
            boolean second = one[0] == 0xc && one[1] == 1 || one[0] == 0xa && one[1] == 3;
            bad.is("constant " + java.util.Arrays.toString(one), second ? at + 3 : at + 1);
        }
    }

    private static void classes() {
        for (int i = 0; i < 5; i++) {
            Parts parts = new Parts();
            parts.type[2 * i + 1] ^= (byte) 0x48;
            parts.is("class number " + i, parts.typeAt() + 2 * i);
        }
        Parts parts = new Parts();
        parts.type = new Bytes().h(0x21, 3, 3, 0, 0).all();
        parts.is("above is this", parts.typeAt() + 4);
        parts.type = new Bytes().h(0x21, 1, 4, 0, 0).all();
        parts.is("this is a TEXT", parts.typeAt() + 2);
        String forty = "abcdefghij/bcdefghij/bcdefghij/bcdefghij";
        String[] right = {"A", "z/_", "0$/9", forty, "Code"};
        String[] wrong = {"", "/", "a/", "/a", "a//b", "a.b", "a;", "a-b", forty + "x", "a[", "a b", "\u007f", "a:b", "@", "`", "{"};
        for (String name : right) {
            Mills.loadIs("name " + name, new FileMaker(name, "java/lang/Object").method("f", "()V", 0, 0, "b1").file(), 1, -1);
            Mills.loadIs("name above " + name, new FileMaker("T", name).method("f", "()V", 0, 0, "b1").file(), 1, -1);
        }
        for (String name : wrong) {
            byte[] file = new FileMaker(name, "java/lang/Object").method("f", "()V", 0, 0, "b1").file();
            Mills.loadIs("name " + name, file, -1, file.length - 39);
            file = new FileMaker("T", name).method("f", "()V", 0, 0, "b1").file();
            Mills.loadIs("name above " + name, file, -1, file.length - 37);
        }
        for (int n : new int[] {0, 9, 256}) {
            parts = new Parts();
            parts.count = new Bytes().h(n).all();
            parts.is(n + " methods", parts.countAt());
        }
        FileMaker eight = new FileMaker();
        for (int i = 0; i < 8; i++) {
            eight.method("f" + i, "()V", 0, 0, "b1");
        }
        Mills.loadIs("8 methods", eight.file(), 8, -1);
    }

    private static void methodHeads() {
        for (int i = 0; i < 3; i++) {
            Parts parts = new Parts();
            parts.method[2 * i + 1] = 8;
            parts.is("method number " + i, parts.methodAt() + 2 * i);
        }
        String thirty = "abcdefghijabcdefghij0123456789";
        for (String name : new String[] {"f", "0", "_$", thirty, "Code"}) {
            Mills.loadIs("method " + name, new FileMaker().method(name, "()V", 0, 0, "b1").file(), 1, -1);
        }
        for (String name : new String[] {"", "<init>", "a/b", thirty + "x", "a-", "a.b", "a;"}) {
            byte[] file = new FileMaker().method(name, "()V", 0, 0, "b1").file();
            Mills.loadIs("method " + name, file, -1, file.length - 2 - 27 + 2);
        }
        for (String one : new String[] {"()V", "()I", "()[I", "(I)V", "([I)V", "(IIIIIIII)V", "([I[I[I[I[I[I[I[I)V"}) {
            String code = one.endsWith("V") ? "b1" : one.endsWith("[I") ? "01 b0" : "03 ac";
            Mills.loadIs("descriptor " + one, new FileMaker().method("f", one, 1, 8, code).file(), 1, -1);
        }
        for (String one : new String[] {"", "(", "()", ")V", "V", "(V)V", "()VV", "()II", "()[", "()[V", "([)V", "([[I)V", "(J)V",
            "(I)J", "(I", "(II", "(I)", "(IIIIIIIII)V", "()[II", "I()V", "()[[I", "(I)[IV", "(IIIIIIII[I)I"}) {
            byte[] file = new FileMaker().method("f", one, 1, 9, "b1").file();
            Mills.loadIs("descriptor " + one, file, -1, file.length - 2 - 27 + 4);
        }
        byte[] same = new FileMaker().method("f", "()V", 0, 0, "b1").method("f", "()V", 0, 0, "b1").file();
        Mills.loadIs("the same twice", same, -1, same.length - 2 - 27 + 4);
        byte[] other = new FileMaker().method("f", "()V", 0, 0, "b1").method("f", "()I", 1, 0, "03 ac").file();
        Mills.loadIs("another descriptor", other, 2, -1);
        // The same by bytes, in other TEXTS.
        Parts parts = new Parts();
        parts.constants = new Bytes().h(11).raw(java.util.Arrays.copyOfRange(parts.constants, 2, parts.constants.length))
            .b(1).text("f").b(1).text("()V").all();
        parts.count = new Bytes().h(2).all();
        parts.attributes = new Bytes().raw(parts.attributes).h(9, 9, 10).raw(parts.attributes).all();
        parts.is("the same by bytes", parts.attributesAt() + 21 + 4);
    }

    private static void attributes() {
        byte[] code = new Parts().attributes.clone();
        byte[] only = java.util.Arrays.copyOfRange(code, 2, code.length);
        Parts parts = new Parts();
        parts.attributes = new Bytes().h(0).all();
        parts.is("no Code", parts.attributesAt());
        parts.attributes = new Bytes().h(2, 1).w(2).b(1, 2).h(2).w(0).all();
        parts.is("others only", parts.attributesAt());
        parts.attributes = new Bytes().h(2, 1).w(2).b(1, 2).h(8).w(0).all();
        parts.is("a name that is none", parts.attributesAt() + 10);
        parts.attributes = new Bytes().h(2).raw(only).raw(only).all();
        parts.is("a second Code", parts.attributesAt() + code.length);
        parts.attributes = new Bytes().h(3, 1).w(2).b(1, 2).raw(only).h(2).w(0).all();
        parts.right("Code among others");
        parts.attributes = new Bytes().h(2, 1).w(0xffffffff).all();
        parts.lacks("more bytes than are left");
        parts.attributes = new Bytes().h(2, 1).w(0x80000000).all();
        parts.lacks("more bytes than are left, the highest bit");
        parts.attributes = new Bytes().h(1, 1).w(100000).all();
        parts.lacks("lacking comes before no Code");
        parts = new Parts();
        parts.end = new Bytes().h(2, 7).w(3).b(9, 9, 9).h(7).w(0).all();
        parts.right("whatever is named Code behind the METHODS");
        parts.end = new Bytes().h(1, 3).w(0).all();
        parts.is("a name that is none, behind the METHODS", parts.endAt() + 2);
        parts.end = new Bytes().h(1, 7).w(3).b(9, 9).all();
        parts.lacks("too few bytes behind the METHODS");
        parts.end = new Bytes().h(0).b(0).all();
        parts.is("something behind all", parts.endAt() + 2);
        parts.end = new Bytes().h(500, 3).w(0).all();
        parts.is("more attributes than bytes: gone through", parts.endAt() + 2);
    }

    private static Bytes code(int told, int stack, int locals, int length) {
        return new Bytes().h(1, 7).w(told).h(stack, locals).w(length);
    }

    private static void codeAttributes() {
        Parts parts = new Parts();
        parts.attributes = code(13, 41, 1, 1).b(0xb1).h(0, 0).all();
        parts.is("STACK 41", parts.attributesAt() + 8);
        parts.attributes = code(13, 40, 40, 1).b(0xb1).h(0, 0).all();
        parts.right("STACK 40, LOCALS 40");
        parts.attributes = code(13, 40, 41, 1).b(0xb1).h(0, 0).all();
        parts.is("LOCALS 41", parts.attributesAt() + 10);
        parts.attributes = code(12, 0, 0, 0).h(0, 0).all();
        parts.is("no code", parts.attributesAt() + 12);
        parts.attributes = code(12 + 301, 0, 0, 301).raw(new byte[301]).h(0, 0).all();
        parts.is("301 bytes of code", parts.attributesAt() + 12);
        byte[] long300 = new byte[300];
        long300[299] = (byte) 0xb1;
        parts.attributes = code(12 + 300, 0, 0, 300).raw(long300).h(0, 0).all();
        parts.right("300 bytes of code");
        parts.attributes = code(13, 0, 0, 0xffffffff).b(0xb1).h(0, 0).all();
        parts.is("far too much code", parts.attributesAt() + 12);
        parts.attributes = code(13, 0, 0, 300).b(0xb1).h(0, 0).all();
        parts.lacks("more code than is left");
        parts.attributes = code(13, 0, 0, 1).b(0xb1).h(1, 0).all();
        parts.is("catches", parts.attributesAt() + 17);
        parts.attributes = code(14, 0, 0, 1).b(0xb1).h(0, 0).b(0).all();
        parts.is("shorter than told", parts.attributesAt() + 4);
        parts.attributes = code(12, 0, 0, 1).b(0xb1).h(0, 0).all();
        parts.is("longer than told", parts.attributesAt() + 4);
        parts.attributes = code(12, 0, 0, 1).b(0xb1).h(7, 0).all();
        parts.is("longer than told is looked at behind it", parts.attributesAt() + 17);
        parts.attributes = code(100, 41, 0, 1).b(0xb1).h(0, 0).all();
        parts.lacks("more told than is left, before all in it");
        parts.attributes = code(28, 0, 0, 1).b(0xb1).h(0, 2, 7).w(1).b(5).h(1).w(2).h(0).all();
        parts.right("attributes in Code, one named Code");
        parts.attributes = code(19, 0, 0, 1).b(0xb1).h(0, 1, 8).w(0).all();
        parts.is("a name in Code that is none", parts.attributesAt() + 21);
        byte[] few = new FileMaker().method("f", "(III)V", 0, 2, "b1").file();
        Mills.loadIs("LOCALS too few", few, -1, few.length - 2 - 11 - 0);
        Mills.loadIs("LOCALS just enough", new FileMaker().method("f", "(III)V", 0, 3, "b1").file(), 1, -1);
    }

    private static void opcodes() {
        String known = " 00 01 02 03 04 05 06 07 08 10 11 12 13 15 19 1a 1b 1c 1d 2a 2b 2c 2d 36 3a 3b 3c 3d 3e 4b 4c 4d 4e 2e 4f"
            + " 57 59 5a 5c 5f 60 64 68 6c 70 74 78 7a 7c 7e 80 82 84 91 92 93 99 9a 9b 9c 9d 9e 9f a0 a1 a2 a3 a4 a5 a6 a7 aa ab"
            + " ac b0 b1 b8 bc be c4 c6 c7 ";
        for (int op = 0; op < 256; op++) {
            if (!known.contains(String.format(" %02x ", op))) {
                // What no way reaches is looked at, too.
                Mills.codeIs("()V", 4, 4, String.format("b1 %02x 00 00 00 00 00 00", op), 2, 1);
            }
        }
        for (String hex : new String[] {"10", "11", "1100", "12", "13", "1300", "15", "19", "36", "3a", "84", "8400", "99", "9900",
            "a4", "a600", "a7", "a700", "b8", "b800", "bc", "c4", "c415", "c41500", "c484", "c48400", "c4840000", "c484000000",
            "c6", "c700", "aa", "ab", "aa0000", "aa0000 00000000 00000000", "ab0000 00000000", "ab0000 00000000 000000",
            "aa0000 00000000 00000000 00000000", "ab0000 00000000 00000001 00000000 000000"}) {
            Mills.codeIs("()V", 4, 4, "b1" + hex, 2, 1);
        }
        for (String hex : new String[] {"1504", "1904", "3604", "3a04", "840401", "c4150004", "c4190004", "c4360004", "c43a0004",
            "c48400040000", "c4150100", "15ff"}) {
            Mills.codeIs("()V", 4, 4, "b1 00" + hex, 2, 2);
            Mills.codeIs("()V", 4, 40, "b1 00" + hex, hex.equals("c4150100") || hex.equals("15ff") ? 2 : 0, 2);
        }
        for (int first : new int[] {0x1a, 0x2a, 0x3b, 0x4b}) {
            for (int i = 0; i < 4; i++) {
                Mills.codeIs("()V", 4, i, String.format("b1 %02x", first + i), 2, 1);
                Mills.codeIs("()V", 4, i + 1, String.format("b1 %02x", first + i), 0, 0);
            }
        }
        for (String hex : new String[] {"c400", "c4101010", "c4c4150000", "c4b1", "c41a0000"}) {
            Mills.codeIs("()V", 4, 4, "b1" + hex, 2, 1);
        }
        for (int type = 0; type < 256; type++) {
            Mills.codeIs("()V", 4, 4, String.format("b1 bc %02x", type), type == 10 ? 0 : 2, 1);
        }
        FileMaker maker = new FileMaker();
        int constant = maker.integer(123456);
        maker.method("f", "()I", 1, 0, String.format("12 %02x ac 13 00 %02x", constant, constant));
        Mills.loadIs("INT", maker.file(), 1, -1);
        for (int wrong : new int[] {0, 1, 2, constant - 1, constant + 1, 60, 255}) {
            maker = new FileMaker();
            maker.integer(123456);
            maker.method("f", "()V", 1, 0, String.format("b1 12 %02x", wrong));
            Mills.loadIs("12 of " + wrong, maker.file(), -2, maker.codePlace(0) + 1);
            maker = new FileMaker();
            maker.integer(123456);
            maker.method("f", "()V", 1, 0, String.format("b1 13 00 %02x", wrong));
            Mills.loadIs("13 of " + wrong, maker.file(), -2, maker.codePlace(0) + 1);
        }
    }

    private static String table(int low, int high, int distances) {
        return String.format("00000004 %08x %08x ", low, high) + "00000004 ".repeat(distances);
    }

    private static void switches() {
        // 0: 03, 1: b1, 2: nop, 3: b1, 4: aa .. whose distances go to itself.
        String[] right = {table(0, 0, 1), table(-5, -4, 2), table(2147483647, 2147483647, 1), table(2147483640, 2147483647, 8),
            table(-2147483648, -2147483648, 1), table(7, 66, 60)};
        String[] wrong = {table(0, -1, 0), table(1, 0, 0), table(7, 67, 61), table(0, 2147483647, 2), table(-2147483648, 2147483647, 0),
            table(2147483647, -2147483648, 2), table(1, 3, 2)};
        for (String one : right) {
            Mills.codeIs("()V", 1, 0, "03 57 00 b1 aa 000000" + one.replace("00000004", "00000000"), 0, 0);
        }
        for (String one : wrong) {
            Mills.codeIs("()V", 1, 0, "03 57 00 b1 aa 000000" + one.replace("00000004", "00000000"), 2, 4);
        }
        for (String pad : new String[] {"010000", "000100", "000001"}) {
            Mills.codeIs("()V", 1, 0, "03 57 00 b1 aa" + pad + "00000000 00000000 00000000 00000000", 2, 4);
            Mills.codeIs("()V", 1, 0, "03 57 00 b1 ab" + pad + "00000000 00000000", 2, 4);
        }
        Mills.codeIs("()V", 1, 0, "03 57 00 b1 ab000000 00000000 00000000", 0, 0);
        Mills.codeIs("()V", 1, 0, "03 57 b1 ab 00000000 00000000", 0, 0);
        Mills.codeIs("()V", 1, 0, "03 57 b1 ab 00000000 ffffffff", 2, 3);
        Mills.codeIs("()V", 1, 0, "03 57 b1 ab 00000000 0000003d" + "00".repeat(280), 2, 3);
        Mills.codeIs("()V", 1, 0, "03 57 b1 ab 00000000 00000002 00000001 00000000 00000001 00000000", 2, 3);
        Mills.codeIs("()V", 1, 0, "03 57 b1 ab 00000000 00000002 00000001 00000000 00000000 00000000", 2, 3);
        Mills.codeIs("()V", 1, 0, "03 57 b1 ab 00000000 00000002 00000001 00000000 80000000 00000000", 2, 3);
        Mills.codeIs("()V", 1, 0, "03 57 b1 ab 00000000 00000002 80000000 00000000 7fffffff 00000000", 0, 0);
        Mills.codeIs("()V", 1, 0, "03 57 b1 ab 00000000 00000001 80000000 00000001", 2, 3);
        Mills.codeIs("()V", 1, 0, "03 57 b1 ab 00000001 00000001 80000000 00000000", 2, 3);
        Mills.codeIs("()V", 1, 0, "03 57 b1 ab 7fffffff 00000000", 2, 3);
        Mills.codeIs("()V", 1, 0, "03 57 b1 ab 80000000 00000000", 2, 3);
    }

    private static void calls() {
        FileMaker maker = new FileMaker();
        int right = maker.own("g", "()V");
        maker.method("f", "()V", 0, 0, String.format("b8 00 %02x b1", right)).method("g", "()V", 0, 0, "b1");
        Mills.loadIs("a call", maker.file(), 2, -1);
        for (int wrong : new int[] {0, 1, 3, right - 1, 90}) {
            maker = new FileMaker();
            maker.own("g", "()V");
            maker.method("f", "()V", 0, 0, String.format("b1 b8 00 %02x", wrong)).method("g", "()V", 0, 0, "b1");
            Mills.loadIs("a call of " + wrong, maker.file(), -2, maker.codePlace(0) + 1);
        }
        String[][] none = {{"U", "g", "()V"}, {"T", "h", "()V"}, {"T", "g", "()I"}, {"T", "g", "what"}, {"", "g", "()V"}};
        for (String[] one : none) {
            maker = new FileMaker();
            int wrong = maker.methodOf(one[0], one[1], one[2]);
            maker.method("f", "()V", 0, 0, String.format("b1 b8 00 %02x", wrong)).method("g", "()V", 0, 0, "b1");
            Mills.loadIs("a call of " + String.join(" ", one), maker.file(), -2, maker.codePlace(0) + 1);
        }
    }

    private static void distances() {
        Mills.codeIs("()V", 1, 0, "a7 0003 b1", 0, 0);
        Mills.codeIs("()V", 1, 0, "a7 0004 b1", 2, 0);
        Mills.codeIs("()V", 1, 0, "a7 0001 b1", 2, 0);
        Mills.codeIs("()V", 1, 0, "a7 ffff b1", 2, 0);
        Mills.codeIs("()V", 1, 0, "00 a7 ffff b1", 0, 0);
        Mills.codeIs("()V", 1, 0, "00 a7 fffe b1", 2, 1);
        Mills.codeIs("()V", 1, 0, "a7 7fff b1", 2, 0);
        Mills.codeIs("()V", 1, 0, "a7 8000 b1", 2, 0);
        // Into a wide instruction, and from what no way reaches.
        Mills.codeIs("(I)V", 1, 1, "c4 15 0000 57 b1 99 fffb", 2, 6);
        Mills.codeIs("(I)V", 1, 1, "c4 15 0000 57 b1 99 fffa", 0, 0);
        // All that is not a distance comes first, from the beginning.
        Mills.codeIs("()V", 1, 0, "a7 0001 b1 ff", 2, 4);
        FileMaker maker = new FileMaker().method("f", "()V", 0, 0, "a7 0001 b1").method("g", "()V", 0, 0, "ff");
        Mills.loadIs("the first METHOD that has one", maker.file(), -2, maker.codePlace(0));
    }

    private static void flows() {
        Mills.codeIs("()V", 1, 0, "00", 3, 0);
        Mills.codeIs("()V", 1, 0, "03 57", 3, 1);
        Mills.codeIs("()V", 0, 0, "03 57 b1", 3, 0);
        Mills.codeIs("()V", 1, 0, "57 b1", 3, 0);
        Mills.codeIs("()V", 1, 0, "03 03 b1", 3, 1);
        Mills.codeIs("()V", 2, 0, "03 03 b1", 0, 0);
        Mills.codeIs("()V", 3, 0, "03 03 5c b1", 3, 2);
        Mills.codeIs("()V", 4, 0, "03 03 5c b1", 0, 0);
        Mills.codeIs("()V", 2, 0, "03 03 5a b1", 3, 2);
        Mills.codeIs("()V", 3, 0, "03 03 5a b1", 0, 0);
        Mills.codeIs("()V", 1, 0, "03 59 b1", 3, 1);
        Mills.codeIs("()V", 3, 0, "03 5a b1", 3, 1);
        Mills.codeIs("()V", 4, 0, "03 5c b1", 3, 1);
        Mills.codeIs("()V", 2, 0, "03 5f b1", 3, 1);
        Mills.codeIs("()V", 1, 1, "1a 57 b1", 3, 0);
        Mills.codeIs("(I)V", 1, 1, "2a 57 b1", 3, 0);
        Mills.codeIs("([I)V", 1, 1, "1a 57 b1", 3, 0);
        Mills.codeIs("([I)V", 1, 1, "2a 57 b1", 0, 0);
        Mills.codeIs("()V", 1, 1, "03 4b b1", 3, 1);
        Mills.codeIs("()V", 1, 1, "01 3b b1", 3, 1);
        Mills.codeIs("()V", 1, 1, "84 0001 b1", 3, 0);
        Mills.codeIs("([I)V", 1, 1, "84 0001 b1", 3, 0);
        Mills.codeIs("(I)V", 1, 1, "84 0001 b1", 0, 0);
        Mills.codeIs("(I)V", 1, 1, "01 4b 84 0001 b1", 3, 2);
        for (int op : new int[] {0x60, 0x64, 0x68, 0x6c, 0x70, 0x78, 0x7a, 0x7c, 0x7e, 0x80, 0x82}) {
            Mills.codeIs("()V", 2, 0, String.format("03 03 %02x 57 b1", op), 0, 0);
            Mills.codeIs("()V", 2, 0, String.format("03 01 %02x 57 b1", op), 3, 2);
            Mills.codeIs("()V", 2, 0, String.format("01 03 %02x 57 b1", op), 3, 2);
            Mills.codeIs("()V", 2, 0, String.format("03 %02x 57 b1", op), 3, 1);
        }
        for (int op : new int[] {0x74, 0x91, 0x92, 0x93}) {
            Mills.codeIs("()V", 1, 0, String.format("03 %02x 57 b1", op), 0, 0);
            Mills.codeIs("()V", 1, 0, String.format("01 %02x 57 b1", op), 3, 1);
            Mills.codeIs("()V", 1, 0, String.format("%02x 57 b1", op), 3, 0);
        }
        for (int op = 0x99; op <= 0x9e; op++) {
            Mills.codeIs("()V", 1, 0, String.format("03 %02x 0003 b1", op), 0, 0);
            Mills.codeIs("()V", 1, 0, String.format("01 %02x 0003 b1", op), 3, 1);
        }
        for (int op = 0x9f; op <= 0xa6; op++) {
            Mills.codeIs("()V", 2, 0, String.format("03 03 %02x 0003 b1", op), op < 0xa5 ? 0 : 3, 2);
            Mills.codeIs("()V", 2, 0, String.format("01 01 %02x 0003 b1", op), op < 0xa5 ? 3 : 0, 2);
            Mills.codeIs("()V", 2, 0, String.format("01 03 %02x 0003 b1", op), 3, 2);
            Mills.codeIs("()V", 2, 0, String.format("03 01 %02x 0003 b1", op), 3, 2);
        }
        for (int op = 0xc6; op <= 0xc7; op++) {
            Mills.codeIs("()V", 1, 0, String.format("01 %02x 0003 b1", op), 0, 0);
            Mills.codeIs("()V", 1, 0, String.format("03 %02x 0003 b1", op), 3, 1);
        }
        Mills.codeIs("([I)V", 2, 1, "2a 03 2e 57 b1", 0, 0);
        Mills.codeIs("([I)V", 2, 1, "2a 01 2e 57 b1", 3, 2);
        Mills.codeIs("([I)V", 2, 1, "03 03 2e 57 b1", 3, 2);
        Mills.codeIs("([I)V", 3, 1, "2a 03 03 4f b1", 0, 0);
        Mills.codeIs("([I)V", 3, 1, "2a 03 01 4f b1", 3, 3);
        Mills.codeIs("([I)V", 3, 1, "2a 01 03 4f b1", 3, 3);
        Mills.codeIs("([I)V", 3, 1, "03 03 03 4f b1", 3, 3);
        Mills.codeIs("([I)V", 3, 1, "03 03 4f b1", 3, 2);
        Mills.codeIs("()V", 1, 0, "03 bc 0a be bc 0a 57 b1", 0, 0);
        Mills.codeIs("()V", 1, 0, "01 bc 0a 57 b1", 3, 1);
        Mills.codeIs("()V", 1, 0, "03 be 57 b1", 3, 1);
        String[][] returns = {{"()V", "b1"}, {"()I", "ac"}, {"()[I", "b0"}};
        for (String[] one : returns) {
            for (String[] other : returns) {
                for (String push : new String[] {"00", "03", "01"}) {
                    boolean fits = one[0].equals("()V") || push.equals(one[0].equals("()I") ? "03" : "01");
                    Mills.codeIs(one[0], 1, 0, push + other[1], one == other && fits ? 0 : 3, 1);
                }
            }
        }
        Mills.codeIs("()V", 1, 0, "01 ab 0000 00000010 00000000 b1", 2, 1);
        Mills.codeIs("()V", 1, 0, "01 ab 0000 0000000b 00000000 b1", 3, 1);
        Mills.codeIs("()V", 1, 0, "03 ab 0000 0000000b 00000000 b1", 0, 0);
        // Ways meet with other stacks: at the instruction that is looked at, the lowest first.
        Mills.codeIs("(I)V", 1, 1, "1a 99 0004 03 b1", 3, 4);
        Mills.codeIs("(I)V", 1, 1, "1a 99 0004 00 b1", 0, 0);
        Mills.codeIs("(I)V", 1, 1, "03 a7 ffff", 3, 1);
        Mills.codeIs("(I)V", 2, 1, "03 a7 ffff", 3, 1);
        Mills.codeIs("(I)I", 1, 1, "1a 99 0007 03 a7 0004 01 ac", 3, 8);
        // A LOCAL that differs is none, and the FAULT is found when its loop is looked at again.
        Mills.codeIs("(II)V", 1, 2, "1a 57 01 4b 1b 99 fffb b1", 3, 0);
        Mills.codeIs("(II)V", 1, 2, "03 57 01 4b 1b 99 fffb b1", 0, 0);
        // b8 takes what its descriptor says, the last one on top.
        FileMaker maker = new FileMaker();
        int call = maker.own("g", "(I[I)[I");
        maker.method("f", "()V", 2, 0, String.format("03 01 b8 00 %02x 57 b1", call)).method("g", "(I[I)[I", 1, 2, "2b b0");
        Mills.loadIs("a call", maker.file(), 2, -1);
        maker = new FileMaker();
        call = maker.own("g", "(I[I)[I");
        maker.method("f", "()V", 2, 0, String.format("01 03 b8 00 %02x 57 b1", call)).method("g", "(I[I)[I", 1, 2, "2b b0");
        Mills.loadIs("a call", maker.file(), -3, maker.codePlace(0) + 2);
        maker = new FileMaker();
        call = maker.own("g", "()I");
        maker.method("f", "()V", 1, 0, String.format("03 b8 00 %02x b1", call)).method("g", "()I", 1, 0, "03 ac");
        Mills.loadIs("a call that leaves too much", maker.file(), -3, maker.codePlace(0) + 1);
    }

    private static void order() {
        // FAULT 2 of any METHOD comes before FAULT 3 of the first.
        FileMaker maker = new FileMaker().method("f", "()V", 0, 0, "00").method("g", "()V", 0, 0, "ff");
        Mills.loadIs("2 before 3", maker.file(), -2, maker.codePlace(1));
        maker = new FileMaker().method("f", "()V", 0, 0, "b1").method("g", "()V", 0, 0, "57 b1").method("h", "()V", 0, 0, "00");
        Mills.loadIs("the first 3", maker.file(), -3, maker.codePlace(1));
        byte[] file = new FileMaker().method("f", "()V", 0, 0, "ff").file();
        file[file.length - 1] = 1;
        Mills.loadIs("1 before 2", file, -1, file.length);
    }
}
