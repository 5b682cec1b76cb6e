/** Section 2 with FAULT 2: of each thing that is looked at in the code, the last that is let through and the first that is not. */
public final class CodeEdgesTest {
    private static final int MIN = Integer.MIN_VALUE;
    private static final int MAX = Integer.MAX_VALUE;

    public static void main(String[] args) {
        whichOpcodes();
        endsWithin();
        locals();
        constants();
        firstConstant();
        newArrays();
        fillBytes();
        fillFromTheBeginning();
        lowAndHigh();
        howMany();
        keys();
        calls();
        distances();
        switchDistances();
        order();
        Due.close();
    }

    /** An instruction that nothing reaches, at the code's end. */
    private static void lastIs(String hex, boolean fits) {
        Mills.codeIs("()V", 4, 4, "b1" + hex, fits ? 0 : 2, 1);
    }

    /** Each opcode without its operands; c4 and the switches, which need more to be right, stand below. */
    private static final String[] WHOLE = {"00", "01", "02", "03", "04", "05", "06", "07", "08", "10ff", "118000", "1503", "1903", "1a", "1b", "1c",
        "1d", "2a", "2b", "2c", "2d", "2e", "3603", "3a03", "3b", "3c", "3d", "3e", "4b", "4c", "4d", "4e", "4f", "57", "59", "5a", "5c", "5f",
        "60", "64", "68", "6c", "70", "74", "78", "7a", "7c", "7e", "80", "82", "840380", "91", "92", "93", "99ffff", "9affff", "9bffff",
        "9cffff", "9dffff", "9effff", "9fffff", "a0ffff", "a1ffff", "a2ffff", "a3ffff", "a4ffff", "a5ffff", "a6ffff", "a7ffff", "ac", "b0",
        "b1", "bc0a", "be", "c4150003", "c4190003", "c4360003", "c43a0003", "c48400038000", "c6ffff", "c7ffff",
        "aa0000 ffffffff 00000005 00000006 ffffffff 00000000", "ab0000 ffffffff 00000000", "ab0000 ffffffff 00000001 80000000 ffffffff"};

    private static void whichOpcodes() {
        boolean[] known = new boolean[256];
        for (String one : WHOLE) {
            known[Integer.parseInt(one.substring(0, 2), 16)] = true;
        }
        for (int op : new int[] {0x12, 0x13, 0xb8}) {
            known[op] = true;
        }
        for (int op = 0; op < 256; op++) {
            if (!known[op]) {
                lastIs(String.format("%02x", op), false);
                lastIs(String.format("%02x", op) + "00".repeat(20), false);
            }
            boolean wide = op == 0x15 || op == 0x19 || op == 0x36 || op == 0x3a;
            lastIs(String.format("c4%02x0000", op), wide);
            if (!wide) {
                lastIs(String.format("c4%02x00000000", op), op == 0x84);
            }
        }
    }

    private static void endsWithin() {
        for (String one : WHOLE) {
            String hex = one.replace(" ", "");
            lastIs(hex, true);
            for (int n = 2; n < hex.length(); n += 2) {
                lastIs(hex.substring(0, n), false);
            }
        }
        // 12, 13, b8 need CONSTANTS.
        String[] tails = {"12 %02x", "13 00%02x", "b8 00%02x"};
        for (String tail : tails) {
            for (int cut = 0; cut < 3; cut++) {
                FileMaker maker = new FileMaker();
                int constant = tail.startsWith("b8") ? maker.own("f", "()V") : maker.integer(5);
                String hex = String.format(tail, constant).replace(" ", "");
                if (2 * cut < hex.length()) {
                    maker.method("f", "()V", 1, 0, "b1" + hex.substring(0, hex.length() - 2 * cut));
                    Mills.loadIs(tail + " without " + cut, maker.file(), cut == 0 ? 1 : -2, cut == 0 ? -1 : maker.codePlace(0) + 1);
                }
            }
        }
        // The last of 300 bytes.
        Mills.codeIs("()V", 1, 1, "b1" + "00".repeat(297) + "10ff", 0, 0);
        Mills.codeIs("()V", 1, 1, "b1" + "00".repeat(298) + "10", 2, 299);
    }

    private static void locals() {
        String[] forms = {"15%02x", "19%02x", "36%02x", "3a%02x", "84%02x01", "c415%04x", "c419%04x", "c436%04x", "c43a%04x", "c484%04x0001"};
        for (int locals : new int[] {0, 1, 2, 39, 40}) {
            for (String form : forms) {
                for (int local : new int[] {0, locals - 1, locals, locals + 1, 127, 128, 255}) {
                    if (local >= 0) {
                        Mills.codeIs("()V", 1, locals, "b1" + String.format(form, local), local < locals ? 0 : 2, 1);
                    }
                }
                if (form.startsWith("c4")) {
                    for (int local : new int[] {256, 256 + locals - 1, 0x8000, 65535}) {
                        Mills.codeIs("()V", 1, locals, "b1" + String.format(form, local), 2, 1);
                    }
                }
            }
        }
        for (int first : new int[] {0x1a, 0x2a, 0x3b, 0x4b}) {
            for (int i = 0; i < 4; i++) {
                Mills.codeIs("()V", 1, i + 1, "b1" + String.format("%02x", first + i), 0, 0);
                Mills.codeIs("()V", 1, i, "b1" + String.format("%02x", first + i), 2, 1);
            }
        }
    }

    /** 12 and 13 take INTS alone, b8 METHODS alone: each of CONSTANTS 0 .. 12 of a draft with 11. */
    private static void constants() {
        for (int i = 0; i <= 12; i++) {
            for (String form : new String[] {"12 %02x", "13 00%02x", "b8 00%02x", "13 01%02x", "b8 01%02x"}) {
                Draft draft = new Draft();
                draft.addInt(-1);
                byte[] code = Bytes.of("b1" + String.format(form, i));
                draft.raw("0 bytes", code).w("0 length", code.length).w("0 told", 12 + code.length);
                boolean fits = form.startsWith("12") || form.startsWith("13 00") ? i == Draft.AN_INT || i == 11
                    : form.startsWith("b8 00") && i == Draft.METHOD;
                Mills.loadIs(String.format(form, i), draft.file(), fits ? 1 : -2, fits ? -1 : draft.at("0 bytes") + 1);
            }
        }
        Draft draft = new Draft();
        for (int i = 11; i <= 100; i++) {
            draft.addInt(i);
        }
        for (int i : new int[] {99, 100, 101, 255}) {
            for (String form : new String[] {"12 %02x", "13 00%02x"}) {
                byte[] code = Bytes.of("b1" + String.format(form, i));
                draft.raw("0 bytes", code).w("0 length", code.length).w("0 told", 12 + code.length);
                Mills.loadIs(String.format(form, i), draft.file(), i <= 100 ? 1 : -2, i <= 100 ? -1 : draft.at("0 bytes") + 1);
            }
        }
    }

    /** CONSTANT 1 of all: an INT for 12 and 13, a METHOD for b8, in a file whose other CONSTANTS come behind it. */
    private static void firstConstant() {
        String[] codes = {"b1 12 01", "b1 13 0001", "b1 b8 0001", "b1 12 00", "b1 13 0000", "b1 b8 0000"};
        for (int kind = 0; kind < 2; kind++) {
            for (int i = 0; i < codes.length; i++) {
                byte[] code = Bytes.of(codes[i]);
                Bytes file = new Bytes().w(0xcafebabe).h(0, 0x31, 11);
                if (kind == 0) {
                    file.b(3).w(77);
                } else {
                    file.b(0xa).h(4, 9);
                }
                file.b(1).text("T").b(1).text("U").b(7).h(2).b(7).h(3).b(1).text("f").b(1).text("()V").b(1).text("Code").b(0xc).h(6, 7).b(3).w(5);
                file.h(0x21, 4, 5, 0, 0, 1, 9, 6, 7, 1, 8).w(12 + code.length).h(1, 1).w(code.length);
                int place = file.at();
                file.raw(code).h(0, 0, 0);
                boolean fits = kind == 0 ? i < 2 : i == 2;
                Mills.loadIs(codes[i], file.all(), fits ? 1 : -2, fits ? -1 : place + 1);
            }
        }
    }

    private static void newArrays() {
        for (int type = 0; type < 256; type++) {
            lastIs(String.format("bc%02x", type), type == 0x0a);
        }
    }

    /** A switch at each of the four places in a word: the bytes 00 before its words, and not one more. */
    private static void fillBytes() {
        for (int before = 1; before <= 8; before++) {
            int fill = 3 - before % 4;
            for (String tail : new String[] {"aa%s %08x 00000000 00000000 %08x", "ab%s %08x 00000000"}) {
                String code = "b1" + "00".repeat(before - 1) + tail;
                String back = "00".repeat(fill);
                Mills.codeIs("()V", 1, 0, String.format(code, back, -before, -before), 0, 0);
                for (int i = 0; i < fill; i++) {
                    for (String wrong : new String[] {"01", "80", "ff"}) {
                        String broken = back.substring(0, 2 * i) + wrong + back.substring(2 * i + 2);
                        Mills.codeIs("()V", 1, 0, String.format(code, broken, -before, -before), 2, before);
                    }
                }
                // One byte more: its words are others then, and no distance of them fits.
                Mills.codeIs("()V", 1, 0, String.format(code, back + "00", -before, -before), 2, before);
            }
        }
    }

    /** A multiple of 4 from the code's beginning, wherever in the file that lies. */
    private static void fillFromTheBeginning() {
        boolean[] seen = new boolean[4];
        for (int n = 1; n <= 4; n++) {
            for (int before = 1; before <= 4; before++) {
                for (int fill = 0; fill < 4; fill++) {
                    FileMaker maker = new FileMaker("T".repeat(n), "U");
                    maker.method("f", "()V", 1, 0, "b1" + "00".repeat(before - 1) + "ab" + "00".repeat(fill) + String.format("%08x 00000000", -before));
                    seen[maker.codePlace(0) % 4] = true;
                    boolean fits = fill == 3 - before % 4;
                    Mills.loadIs(fill + " bytes 00 behind " + before, maker.file(), fits ? 1 : -2, fits ? -1 : maker.codePlace(0) + before);
                }
            }
        }
        for (int rest = 0; rest < 4; rest++) {
            Due.that("a code at a rest of " + rest, seen[rest]);
        }
    }

    /** A table behind one byte of code, whose distances go back to that byte. */
    private static String table(int low, int high, int distances) {
        return String.format("aa0000 ffffffff %08x %08x", low, high) + " ffffffff".repeat(distances);
    }

    private static void lowAndHigh() {
        int[] lows = {0, 1, -1, -30, -59, -60, 1000000, MIN, MIN + 1, MAX - 60, MAX - 59};
        for (int low : lows) {
            lastIs(table(low, low, 1), true);
            lastIs(table(low, low + 1, 2), true);
            lastIs(table(low, low + 58, 59), true);
            lastIs(table(low, low + 59, 60), true);
            if (low != MAX - 59) {
                lastIs(table(low, low + 60, 61), false);
            }
            if (low != MIN) {
                lastIs(table(low, low - 1, 0), false);
                lastIs(table(low, low - 1, 1), false);
                lastIs(table(low, MIN, 1), false);
            }
            if (low < MAX - 60) {
                lastIs(table(low, MAX, 1), false);
            }
        }
        // The highest numbers: low + 59 is above them all, high is not.
        for (int less = 0; less < 59; less++) {
            lastIs(table(MAX - less, MAX, less + 1), true);
        }
        lastIs(table(MAX, MIN, 2), false);
        lastIs(table(MAX - 1, MIN, 3), false);
        lastIs(table(MAX - 1, MIN + 1, 4), false);
        lastIs(table(MIN, MAX, 0), false);
        lastIs(table(MIN, MAX - 1, 0), false);
        lastIs(table(0, MIN, 1), false);
        lastIs(table(-1, MAX, 1), false);
        // As many distances as told, to the byte.
        lastIs(table(3, 5, 2), false);
        lastIs(table(3, 5, 3), true);
    }

    private static String lookup(int told, int... keys) {
        StringBuilder text = new StringBuilder(String.format("ab0000 ffffffff %08x", told));
        for (int key : keys) {
            text.append(String.format(" %08x ffffffff", key));
        }
        return text.toString();
    }

    private static int[] rising(int n) {
        int[] keys = new int[n];
        for (int i = 0; i < n; i++) {
            keys[i] = 3 * i - 50;
        }
        return keys;
    }

    private static void howMany() {
        // 36 pairs are the most that 300 bytes hold; so 37 .. 60 do not end within the code, and 61 may not be.
        for (int n : new int[] {0, 1, 2, 35, 36}) {
            lastIs(lookup(n, rising(n)), true);
            if (n < 36) {
                lastIs(lookup(n + 1, rising(n)), false);
            }
        }
        for (int n : new int[] {-1, MIN, MAX, 37, 60, 61, 0x20000000, 0x10000000}) {
            lastIs(lookup(n), false);
            lastIs(lookup(n, rising(36)), false);
        }
    }

    private static void keys() {
        lastIs(lookup(2, 5, 6), true);
        lastIs(lookup(2, 5, 5), false);
        lastIs(lookup(2, 5, 4), false);
        lastIs(lookup(2, -1, 0), true);
        lastIs(lookup(2, 0, -1), false);
        lastIs(lookup(2, MIN, MAX), true);
        lastIs(lookup(2, MAX, MIN), false);
        lastIs(lookup(2, MIN, MIN), false);
        lastIs(lookup(2, MAX, MAX), false);
        lastIs(lookup(3, MIN, 0, MAX), true);
        lastIs(lookup(3, 0, MIN, MAX), false);
        lastIs(lookup(3, MIN, MAX, 0), false);
        lastIs(lookup(1, MIN), true);
        // The first pair and the last one of many.
        for (int i : new int[] {0, 1, 17, 34}) {
            int[] keys = rising(36);
            keys[i + 1] = keys[i];
            lastIs(lookup(36, keys), false);
            keys[i + 1] = keys[i] + 1;
            lastIs(lookup(36, keys), true);
        }
    }

    private static void calls() {
        // b8 of a METHOD whose TYPE's name and whose PAIR are another CONSTANT's, but the same by bytes.
        String[][] told = {{"T", "f", "()V", "0"}, {"t", "f", "()V", "2"}, {"TT", "f", "()V", "2"}, {"", "f", "()V", "2"},
            {"java/lang/Object", "f", "()V", "2"}, {"T", "F", "()V", "2"}, {"T", "ff", "()V", "2"}, {"T", "", "()V", "2"},
            {"T", "f", "()I", "2"}, {"T", "f", "()", "2"}, {"T", "f", "()VV", "2"}, {"T", "g", "(I)V", "0"}, {"T", "g", "()V", "2"},
            {"T", "f", "(I)V", "2"}, {"T", "()V", "f", "2"}};
        for (String[] one : told) {
            Draft draft = new Draft();
            draft.addMethod(draft.addText("g"), draft.addText("(I)V"), 1, 1, Bytes.of("b1"));
            int type = draft.addType(draft.addText(one[0]));
            int pair = draft.addPair(draft.addText(one[1]), draft.addText(one[2]));
            byte[] code = Bytes.of(String.format("b1 b800%02x", draft.addMethodConstant(type, pair)));
            draft.raw("0 bytes", code).w("0 length", code.length).w("0 told", 12 + code.length);
            boolean fits = one[3].equals("0");
            Mills.loadIs("a call of " + String.join(" ", one), draft.file(), fits ? 2 : -2, fits ? -1 : draft.at("0 bytes") + 1);
        }
        // The first and the last of eight, and from each of them.
        for (int caller = 0; caller < 8; caller += 7) {
            for (int called = 0; called < 8; called += 7) {
                FileMaker maker = new FileMaker();
                int call = maker.own("m" + called, "()V");
                for (int m = 0; m < 8; m++) {
                    maker.method("m" + m, "()V", 0, 0, m == caller ? String.format("b1 b800%02x", call) : "b1");
                }
                Mills.loadIs(caller + " calls " + called, maker.file(), 8, -1);
            }
        }
    }

    /** Distances of all that have one: to the first instruction, the last one, into one, before and behind the code. */
    private static void distances() {
        int[] ops = {0x99, 0x9a, 0x9b, 0x9c, 0x9d, 0x9e, 0x9f, 0xa0, 0xa1, 0xa2, 0xa3, 0xa4, 0xa5, 0xa6, 0xa7, 0xc6, 0xc7};
        for (int op : ops) {
            // 0: b1, 1: 10 05, 3: the jump, 6: 11 0000, 9: 00
            for (int to = -3; to <= 13; to++) {
                boolean begins = to == 0 || to == 1 || to == 3 || to == 6 || to == 9;
                Mills.codeIs("()V", 1, 0, String.format("b1 1005 %02x%04x 110000 00", op, to - 3 & 0xffff), begins ? 0 : 2, 3);
            }
            for (int distance : new int[] {0x7fff, 0x8000, 0x00ff, 0xff00, 0x0100}) {
                Mills.codeIs("()V", 1, 0, String.format("b1 1005 %02x%04x 110000 00", op, distance), 2, 3);
            }
            // From the last of 300 bytes to the first, and the other way round.
            Mills.codeIs("()V", 1, 0, "b1" + "00".repeat(296) + String.format("%02xfed7", op), 0, 0);
            Mills.codeIs("()V", 1, 0, "b1" + "00".repeat(296) + String.format("%02xfed6", op), 2, 297);
            Mills.codeIs("()V", 1, 0, "b1" + String.format("%02x012a", op) + "00".repeat(296), 0, 0);
            Mills.codeIs("()V", 1, 0, "b1" + String.format("%02x012b", op) + "00".repeat(296), 2, 1);
        }
        // Into c4's instruction, into a switch's words and to a fill byte.
        Mills.codeIs("()V", 1, 1, "b1 c4150000 a7fffc", 0, 0);
        Mills.codeIs("()V", 1, 1, "b1 c4150000 a7fffd", 2, 5);
        Mills.codeIs("()V", 1, 1, "b1 ab0000 ffffffff 00000000 a7fff5", 0, 0);
        Mills.codeIs("()V", 1, 1, "b1 ab0000 ffffffff 00000000 a7fff6", 2, 12);
        Mills.codeIs("()V", 1, 1, "b1 ab0000 ffffffff 00000000 a7fffc", 2, 12);
    }

    private static void switchDistances() {
        // 0: b1, 1: the switch; behind it 11 0000 and 00.
        for (int which = 0; which < 3; which++) {
            for (int kind = 0; kind < 2; kind++) {
                int length = kind == 0 ? 23 : 27;
                int[] tos = {-1, 0, 1, 2, 4, 1 + length, 2 + length, 3 + length, 4 + length, 5 + length};
                for (int to : tos) {
                    boolean begins = to == 0 || to == 1 || to == 1 + length || to == 4 + length;
                    Mills.codeIs("()V", 1, 0, switched(kind, which, to - 1), begins ? 0 : 2, 1);
                }
                for (int far : new int[] {MIN, MIN + 1, MAX - 1, MAX, 0x0000ffff, 0x00ffffff}) {
                    Mills.codeIs("()V", 1, 0, switched(kind, which, far), 2, 1);
                }
            }
        }
    }

    /** A switch with two cases, of whose three distances one is told and the others go to the code's beginning. */
    private static String switched(int kind, int which, int distance) {
        int[] all = {-1, -1, -1};
        all[which] = distance;
        String words = kind == 0 ? "aa0000 %08x 00000007 00000008 %08x %08x" : "ab0000 %08x 00000002 00000007 %08x 00000009 %08x";
        return "b1" + String.format(words, all[0], all[1], all[2]) + "110000 00";
    }

    private static void order() {
        // Of two of the same kind the first; all else before distances; a distance of one METHOD before all of the next.
        Mills.codeIs("()V", 1, 0, "b1 ff fe", 2, 1);
        Mills.codeIs("()V", 1, 0, "b1 1500 bc09", 2, 1);
        Mills.codeIs("()V", 1, 0, "b1 bc09 1500", 2, 1);
        Mills.codeIs("()V", 1, 0, "b1 a70002 a70001", 2, 1);
        Mills.codeIs("()V", 1, 0, "b1 a70001 1500", 2, 4);
        Mills.codeIs("()V", 1, 0, "b1 a70001 bc0b", 2, 4);
        Mills.codeIs("()V", 1, 0, "b1 a70001 10", 2, 4);
        Mills.codeIs("()V", 1, 0, "b1 99fffe a70001", 2, 1);
        FileMaker maker = new FileMaker().method("f", "()V", 0, 0, "b1 a70001").method("g", "()V", 0, 0, "ff");
        Mills.loadIs("a distance of the first METHOD", maker.file(), -2, maker.codePlace(0) + 1);
        maker = new FileMaker().method("f", "()V", 0, 0, "b1").method("g", "()V", 0, 0, "b1 a70001").method("h", "()V", 0, 0, "ff");
        Mills.loadIs("a distance of the second METHOD", maker.file(), -2, maker.codePlace(1) + 1);
        // FAULT 1 behind the METHODS comes before any FAULT 2.
        Draft draft = new Draft().raw("0 bytes", Bytes.of("ff")).b("behind", 0);
        draft.fault("1 before 2", "behind");
    }
}
