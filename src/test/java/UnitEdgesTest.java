/**
 * Section 3: which of two forms at which bound, the lengths of GOTO, and where a unit 0000 stands. Each bound has its
 * units written out on both sides; behind that each instruction is swept over the registers around v16.
 */
public final class UnitEdgesTest {
    public static void main(String[] args) throws Exception {
        registers();
        argumentsAreMoved();
        loads();
        stores();
        numbers();
        constants();
        twoOperands();
        oneOperand();
        addedToLocals();
        twoInts();
        passed();
        gotoBack();
        gotoOn();
        gotoNowhere();
        defaultBack();
        defaultOn();
        inRounds();
        tablesAreEven();
        tablesInOrder();
        cases();
        withoutUnits();
        sweep();
        Due.close();
    }

    private static void registers() {
        int[] bounds = {0, 1, 39, 40};
        for (int locals : bounds) {
            for (int stack : bounds) {
                for (int arguments : new int[] {0, 1, 7, 8}) {
                    if (arguments <= locals) {
                        String descriptor = "(" + "I".repeat(arguments) + ")V";
                        RegisterMill mill = Mills.with(FileMaker.one(descriptor, stack, locals, "b1"));
                        Due.is("REGISTERS", mill.method(0, 6), 2 + locals + stack + arguments);
                        Due.is("in the file", mill.out(mill.method(0, 9) - 16), 2 + locals + stack + arguments);
                        Due.is("arguments", mill.out(mill.method(0, 9) - 14), arguments);
                    }
                }
            }
        }
    }

    private static void argumentsAreMoved() {
        Mills.unitsAre("()V", 0, 0, "b1", "000e");
        Mills.unitsAre("(I)V", 0, 1, "b1", "3201 000e");
        Mills.unitsAre("([I)V", 0, 1, "b1", "3207 000e");
        // From v15 and from v16, to low LOCALS.
        Mills.unitsAre("(I)V", 0, 13, "b1", "f201 000e");
        Mills.unitsAre("(I)V", 0, 14, "b1", "0202 0010 000e");
        Mills.unitsAre("([I)V", 12, 1, "b1", "f207 000e");
        Mills.unitsAre("([I)V", 13, 1, "b1", "0208 0010 000e");
        Mills.unitsAre("(I[I)V", 10, 2, "b1", "e201 f307 000e");
        Mills.unitsAre("(I[I)V", 11, 2, "b1", "f201 0308 0010 000e");
        Mills.unitsAre("([II[II[II[II)V", 40, 40, "b1",
            "0208 0052 0302 0053 0408 0054 0502 0055 0608 0056 0702 0057 0808 0058 0902 0059 000e");
    }

    private static void loads() {
        // To v15 and v16 from v2; from v15 (LOCAL 13) only to high ones.
        Mills.unitsAre("()V", 1, 13, "03 3b 1a b1", "0f12 f201 2f01 000e");
        Mills.unitsAre("()V", 1, 14, "03 3b 1a b1", "1013 0000 0202 0010 1002 0002 000e");
        Mills.unitsAre("()V", 1, 13, "01 4b 2a b1", "0f12 f207 2f07 000e");
        Mills.unitsAre("()V", 1, 14, "01 4b 2a b1", "1013 0000 0208 0010 1008 0002 000e");
        Mills.unitsAre("()V", 1, 14, "03 360d 150d b1", "1013 0000 0f02 0010 1002 000f 000e");
        Mills.unitsAre("()V", 1, 15, "03 360e 150e b1", "1113 0000 1002 0011 1102 0010 000e");
        Mills.unitsAre("()V", 1, 40, "01 3a27 1927 b1", "2a13 0000 2908 002a 2a08 0029 000e");
        // c4 makes the same units.
        Mills.unitsAre("()V", 1, 40, "01 c43a0027 c4190027 b1", "2a13 0000 2908 002a 2a08 0029 000e");
        Mills.unitsAre("()V", 1, 13, "03 c4360000 c4150000 b1", "0f12 f201 2f01 000e");
    }

    private static void stores() {
        // From v15 and v16: the second cell of the stack.
        Mills.unitsAre("()V", 2, 12, "03 03 3b b1", "0e12 0f12 f201 000e");
        Mills.unitsAre("()V", 2, 13, "03 03 3b b1", "0f12 1013 0000 0202 0010 000e");
        Mills.unitsAre("()V", 2, 12, "03 01 4e b1", "0e12 0f12 f507 000e");
        Mills.unitsAre("()V", 2, 13, "03 01 4e b1", "0f12 1013 0000 0508 0010 000e");
    }

    private static void numbers() {
        // 11n: -8 .. 7 below v16.
        Mills.unitsAre("()V", 1, 13, "10f8 b1", "8f12 000e");
        Mills.unitsAre("()V", 1, 13, "10f7 b1", "0f13 fff7 000e");
        Mills.unitsAre("()V", 1, 13, "1007 b1", "7f12 000e");
        Mills.unitsAre("()V", 1, 13, "1008 b1", "0f13 0008 000e");
        Mills.unitsAre("()V", 1, 14, "10f8 b1", "1013 fff8 000e");
        Mills.unitsAre("()V", 1, 14, "1007 b1", "1013 0007 000e");
        Mills.unitsAre("()V", 1, 14, "01 b1", "1013 0000 000e");
        Mills.unitsAre("()V", 1, 13, "01 b1", "0f12 000e");
        Mills.unitsAre("()V", 1, 13, "02 b1", "ff12 000e");
        Mills.unitsAre("()V", 1, 13, "08 b1", "5f12 000e");
        Mills.unitsAre("()V", 1, 14, "02 b1", "1013 ffff 000e");
        // Bytes and numbers of two bytes have a sign.
        Mills.unitsAre("()V", 1, 0, "107f b1", "0213 007f 000e");
        Mills.unitsAre("()V", 1, 0, "1080 b1", "0213 ff80 000e");
        Mills.unitsAre("()V", 1, 0, "10ff b1", "f212 000e");
        Mills.unitsAre("()V", 1, 0, "117fff b1", "0213 7fff 000e");
        Mills.unitsAre("()V", 1, 0, "118000 b1", "0213 8000 000e");
        Mills.unitsAre("()V", 1, 0, "11ffff b1", "f212 000e");
        Mills.unitsAre("()V", 1, 0, "110080 b1", "0213 0080 000e");
    }

    private static void constantIs(int value, int locals, String due) {
        FileMaker maker = new FileMaker();
        int constant = maker.integer(value);
        maker.method("f", "()V", 1, locals, String.format("12%02x b1", constant));
        maker.method("g", "()V", 1, locals, String.format("1300%02x b1", constant));
        RegisterMill mill = Mills.with(maker.file());
        for (int m = 0; m < 2; m++) {
            String got = Mills.units(mill, m);
            Due.that("INT " + value + ", " + locals + " LOCALS: " + got + ", due is " + due, got.equals(due + " 000e"));
        }
    }

    private static void constants() {
        int[] values = {-8, -9, 7, 8, 32767, 32768, -32768, -32769, 65535, 65536, 65537, -65535, -65536, -65537, 0x7fff0000, 0x7fff0001, 0x7fffffff,
            0x80000000, 0x80000001, 0x00018000, 0xffff8000, 0xffff7fff, 0x00007fff, 0x0000ffff, 0x12340000, 0x00100000, 0};
        String[] due = {"8%x12", "0%x13 fff7", "7%x12", "0%x13 0008", "0%x13 7fff", "0%x14 8000 0000", "0%x13 8000", "0%x14 7fff ffff",
            "0%x14 ffff 0000", "0%x15 0001", "0%x14 0001 0001", "0%x14 0001 ffff", "0%x15 ffff", "0%x14 ffff fffe", "0%x15 7fff",
            "0%x14 0001 7fff", "0%x14 ffff 7fff", "0%x15 8000", "0%x14 0001 8000", "0%x14 8000 0001", "0%x13 8000", "0%x14 7fff ffff",
            "0%x13 7fff", "0%x14 ffff 0000", "0%x15 1234", "0%x15 0010", "0%x12"};
        for (int i = 0; i < values.length; i++) {
            constantIs(values[i], 13, String.format(due[i], 15));
            String high = due[i].contains("12") && due[i].length() == 5 ? String.format("1013 %04x", values[i] & 0xffff)
                : due[i].replace("0%x", "10");
            constantIs(values[i], 14, high);
        }
    }

    private static void twoOperands() {
        int[] ops = {0x60, 0x64, 0x68, 0x6c, 0x70, 0x7e, 0x80, 0x82, 0x78, 0x7a, 0x7c};
        for (int i = 0; i < ops.length; i++) {
            Mills.unitsAre("()V", 2, 12, String.format("04 05 %02x b1", ops[i]), String.format("1e12 2f12 fe%02x 000e", 0xb0 + i));
            Mills.unitsAre("()V", 2, 13, String.format("04 05 %02x b1", ops[i]), String.format("1f12 1013 0002 0f%02x 100f 000e", 0x90 + i));
            Mills.unitsAre("()V", 2, 14, String.format("04 05 %02x b1", ops[i]), String.format("1013 0001 1113 0002 10%02x 1110 000e", 0x90 + i));
        }
    }

    private static void oneOperand() {
        int[] ops = {0x74, 0x91, 0x92, 0x93};
        int[] due = {0x7b, 0x8d, 0x8e, 0x8f};
        for (int i = 0; i < ops.length; i++) {
            Mills.unitsAre("()V", 1, 13, String.format("04 %02x b1", ops[i]), String.format("1f12 ff%02x 000e", due[i]));
            Mills.unitsAre("()V", 1, 14, String.format("04 %02x b1", ops[i]), String.format("1013 0001 0002 0010 00%02x 1002 0000 000e", due[i]));
        }
        Mills.unitsAre("()V", 1, 13, "01 be b1", "0f12 ff21 000e");
        Mills.unitsAre("()V", 1, 14, "01 be b1", "1013 0000 0008 0010 0021 1002 0000 000e");
        Mills.unitsAre("()V", 1, 13, "04 bc0a b1", "1f12 ff23 0003 000e");
        Mills.unitsAre("()V", 1, 14, "04 bc0a b1", "1013 0001 0002 0010 0023 0003 1008 0000 000e");
    }

    private static void addedToLocals() {
        // One byte always fits; of two bytes only -128 .. 127.
        int[] values = {0, 1, -1, 127, 128, -128, -129, 255, 256, 32767, -32768};
        for (int value : values) {
            boolean small = value >= -128 && value <= 127;
            for (int local : new int[] {0, 13, 14, 39}) {
                String due = small ? String.format("%02xd8 %02x%02x", 2 + local, value & 0xff, 2 + local)
                    : String.format("0013 %04x %02x90 00%02x", value & 0xffff, 2 + local, 2 + local);
                Mills.unitsAre("()V", 1, 40, String.format("03 36%02x c484%04x%04x b1", local, local, value & 0xffff),
                    String.format("2a13 0000 %02x02 002a ", 2 + local) + due + " 000e");
                if (small) {
                    Mills.unitsAre("()V", 1, 40, String.format("03 36%02x 84%02x%02x b1", local, local, value & 0xff),
                        String.format("2a13 0000 %02x02 002a ", 2 + local) + due + " 000e");
                }
            }
        }
    }

    private static void twoInts() {
        int[] ops = {0x9f, 0xa0, 0xa1, 0xa2, 0xa3, 0xa4, 0xa5, 0xa6};
        int[] due = {0x32, 0x33, 0x34, 0x35, 0x36, 0x37, 0x32, 0x33};
        for (int i = 0; i < ops.length; i++) {
            boolean arrays = ops[i] >= 0xa5;
            String code = (arrays ? "01 01 " : "03 03 ") + String.format("%02x0003 b1", ops[i]);
            String low = arrays ? "07" : "01";
            String high = arrays ? "08" : "02";
            Mills.unitsAre("()V", 2, 12, code, String.format("0e12 0f12 fe%02x 0002 000e", due[i]));
            Mills.unitsAre("()V", 2, 13, code, String.format("0f12 1013 0000 f0%s 01%s 0010 10%02x 0002 000e", low, high, due[i]));
            Mills.unitsAre("()V", 2, 14, code, String.format("1013 0000 1113 0000 00%s 0010 01%s 0011 10%02x 0002 000e", high, high, due[i]));
            // An instruction begins at its first unit: a jump back to it goes to the MOVES, not to the 32.
            String two = arrays ? "01 01 " : "03 03 ";
            Mills.unitsAre("()V", 2, 14, two + String.format("%02x0003 ", ops[i]) + two + "a7fffb",
                String.format("1013 0000 1113 0000 00%s 0010 01%s 0011 10%02x 0002 1013 0000 1113 0000 f628", high, high, due[i]));
        }
        int[] ones = {0x99, 0x9a, 0x9b, 0x9c, 0x9d, 0x9e};
        for (int i = 0; i < ones.length; i++) {
            Mills.unitsAre("()V", 1, 13, String.format("03 %02x0003 b1", ones[i]), String.format("0f12 0f%02x 0002 000e", 0x38 + i));
            Mills.unitsAre("()V", 1, 14, String.format("03 %02x0003 b1", ones[i]), String.format("1013 0000 10%02x 0002 000e", 0x38 + i));
        }
        Mills.unitsAre("()V", 1, 14, "01 c60003 b1", "1013 0000 1038 0002 000e");
        Mills.unitsAre("()V", 1, 14, "01 c70003 b1", "1013 0000 1039 0002 000e");
    }

    /** 77 with 0 .. 8 arguments, low and high, and 0a, 0c only where something is returned. */
    private static void passed() {
        for (int n = 0; n <= 8; n++) {
            for (int locals : new int[] {0, 12, 13, 14, 40}) {
                for (String type : new String[] {"V", "I", "[I"}) {
                    FileMaker maker = new FileMaker();
                    String descriptor = "(" + "I".repeat(n) + ")" + type;
                    int call = maker.own("g", descriptor);
                    int stack = Math.max(n, 1);
                    maker.method("f", "()V", stack, locals, "03".repeat(n) + String.format("b800%02x b1", call));
                    maker.method("g", descriptor, 1, n, type.equals("V") ? "b1" : type.equals("I") ? "03 ac" : "01 b0");
                    RegisterMill mill = Mills.with(maker.file());
                    StringBuilder due = new StringBuilder();
                    for (int i = 0; i < n; i++) {
                        int to = 2 + locals + i;
                        due.append(to < 16 ? String.format("0%x12 ", to) : String.format("%02x13 0000 ", to));
                    }
                    due.append(String.format("%02x77 0001 %04x ", n, 2 + locals));
                    due.append(type.equals("V") ? "" : String.format("%02x%s ", 2 + locals, type.equals("I") ? "0a" : "0c")).append("000e");
                    String got = Mills.units(mill, 0);
                    Due.that(descriptor + ", " + locals + " LOCALS: " + got + ", due is " + due, got.contentEquals(due));
                    Due.is("the most registers of a 77", mill.out(mill.method(0, 9) - 12), n);
                }
            }
        }
    }

    private static void gotoBack() {
        // Over k units of numbers, then the GOTO: -128 is held by one unit, -129 is not.
        for (int k = 1; k <= 140; k++) {
            String code = "0357".repeat(k) + String.format("a7%04x", -2 * k & 0xffff);
            String due = "0212 ".repeat(k) + (k <= 128 ? String.format("%02x28", -k & 0xff) : String.format("0029 %04x", -k & 0xffff));
            Mills.unitsAre("()V", 1, 0, code, due);
        }
    }

    private static void gotoOn() {
        // Over k units: 127 is held by one unit; of 128 the GOTO itself makes 129.
        for (int k = 1; k <= 140; k++) {
            String code = "1a 990006" + String.format("a7%04x", 3 + 2 * k) + "0357".repeat(k) + "b1";
            boolean small = 1 + k <= 127;
            String due = "4201 2301 0338 " + (small ? String.format("0003 %02x28 ", 1 + k) : String.format("0004 0029 %04x ", 2 + k))
                + "0312 ".repeat(k) + "000e";
            Mills.unitsAre("(I)V", 1, 1, code, due);
        }
    }

    private static void gotoNowhere() {
        Mills.unitsAre("()V", 0, 0, "a70000", "002a 0000 0000");
        Mills.unitsAre("()V", 0, 0, "00 a7ffff", "002a 0000 0000");
        Mills.unitsAre("()V", 0, 0, "00 00 00 a7fffd", "002a 0000 0000");
        Mills.unitsAre("()V", 0, 0, "00 00 00 a7fffe", "002a 0000 0000");
        Mills.unitsAre("(I)V", 0, 1, "a70000", "3201 002a 0000 0000");
        // One unit between them is none of it; nor is a GOTO to the next.
        Mills.unitsAre("()V", 1, 0, "03 57 a7fffe", "0212 ff28");
        Mills.unitsAre("()V", 1, 0, "a70003 a7fffd", "0128 ff28");
        Mills.unitsAre("()V", 0, 0, "a70003 00 b1", "0128 000e");
        // Others go over its three units.
        Mills.unitsAre("(I)V", 1, 1, "1a 990006 a70000 b1", "4201 2301 0338 0005 002a 0000 0000 000e");
        for (int k = 118; k <= 123; k++) {
            String code = "1a 990006" + String.format("a7%04x", 10 + 2 * k) + "1a 990006 a70000" + "0357".repeat(k) + "b1";
            boolean small = 1 + 3 + 3 + k <= 127;
            Mills.unitsAre("(I)V", 1, 1, code, "4201 2301 0338 " + (small ? String.format("0003 %02x28", 7 + k) : String.format("0004 0029 %04x", 8 + k))
                + " 2301 0338 0005 002a 0000 0000 " + "0312 ".repeat(k) + "000e");
        }
    }

    /** The GOTO of a switch's default stands three units behind the 2b, 2c. */
    private static void defaultBack() {
        for (int k = 120; k <= 130; k++) {
            // k times 03 57, then 1a and the switch, filled up so that its words begin at a multiple of 4.
            int at = 2 * k + 1;
            int words = at / 4 * 4 + 4;
            String code = "0357".repeat(k) + "1a ab" + "00".repeat(words - at - 1) + String.format("%08x 00000000", -at);
            int distance = -(k + 1 + 3);
            String first = distance >= -128 ? String.format("%02x28", distance & 0xff) : String.format("0029 %04x", distance & 0xffff);
            int count = 1 + k + 1 + 3 + (distance >= -128 ? 1 : 2);
            int table = count + count % 2;
            Mills.unitsAre("(I)V", 1, 1, code, "4201 " + "0312 ".repeat(k) + "2301 " + String.format("032c %04x 0000 ", table - k - 2) + first
                + (count % 2 == 1 ? " 0000" : "") + " 0200 0000");
        }
    }

    private static void defaultOn() {
        for (int k = 120; k <= 130; k++) {
            // 0: 1a ab, the words at 4, one pair that goes to 20, where k times 03 57 stand; the default to the b1.
            int end = 20 + 2 * k;
            String code = "1a ab0000" + String.format("%08x 00000001 00000009 00000013", end - 1) + "0357".repeat(k) + "b1";
            boolean small = 1 + k <= 127;
            String first = small ? String.format("%02x28 ", 1 + k) : String.format("0029 %04x ", 2 + k);
            int count = 2 + 3 + (small ? 1 : 2) + k + 1;
            int table = count + count % 2;
            Mills.unitsAre("(I)V", 1, 1, code, String.format("4201 2301 032c %04x 0000 ", table - 2) + first + "0312 ".repeat(k) + "000e"
                + (count % 2 == 1 ? " 0000" : "") + String.format(" 0200 0001 0009 0000 %04x 0000", small ? 4 : 5));
        }
    }

    /** One GOTO gets longer, and by that another, and by that a third. */
    private static void inRounds() {
        // Three in a row, each behind a question, all to the end: the first is the farthest by 4 units each.
        for (int k = 110; k <= 127; k++) {
            int end = 21 + 2 * k;
            StringBuilder code = new StringBuilder();
            for (int i = 0; i < 3; i++) {
                code.append(String.format("1a 990006 a7%04x", end - 7 * i - 4));
            }
            code.append("0357".repeat(k)).append("b1");
            int[] sizes = {1, 1, 1};
            for (boolean grown = true; grown;) {
                grown = false;
                int[] distances = distances(sizes, k);
                for (int i = 0; i < 3; i++) {
                    if (sizes[i] == 1 && distances[i] > 127) {
                        sizes[i] = 2;
                        grown = true;
                    }
                }
            }
            int[] distances = distances(sizes, k);
            StringBuilder due = new StringBuilder("4201 ");
            for (int i = 0; i < 3; i++) {
                due.append(String.format("2301 0338 %04x ", 2 + sizes[i]));
                due.append(sizes[i] == 1 ? String.format("%02x28 ", distances[i]) : String.format("0029 %04x ", distances[i]));
            }
            Mills.unitsAre("(I)V", 1, 1, code.toString(), due + "0312 ".repeat(k) + "000e");
        }
        // The second round: 127 till the one within it is two units long.
        // 0: 1a, 99 to 7, a7 to the end; 7: 1a, 99 to 14, a7 to the end; 14: k times 03 57. 127 = 1 + 3 + 1 + k.
        int k = 122;
        String code = "1a 990006" + String.format("a7%04x", 10 + 2 * k) + "1a 990006" + String.format("a7%04x", 3 + 2 * k) + "0357".repeat(k) + "b1";
        Mills.unitsAre("(I)V", 1, 1, code, "4201 2301 0338 0003 7f28 2301 0338 0003 7b28 " + "0312 ".repeat(k) + "000e");
    }

    private static int[] distances(int[] sizes, int k) {
        return new int[] {sizes[0] + 3 + sizes[1] + 3 + sizes[2] + k, sizes[1] + 3 + sizes[2] + k, sizes[2] + k};
    }

    private static void tablesAreEven() {
        // 1a ab to a code of j numbers and b1: 2 + 4 + j + 1 units, then the table at the next even one.
        for (int j = 0; j <= 7; j++) {
            String code = "1a ab0000 0000000b 00000000" + "0357".repeat(j) + "b1";
            int count = 7 + j;
            int table = count + count % 2;
            Mills.unitsAre("(I)V", 1, 1, code, String.format("4201 2301 032c %04x 0000 0128 ", table - 2) + "0312 ".repeat(j) + "000e"
                + (count % 2 == 1 ? " 0000" : "") + " 0200 0000");
            code = "1a aa0000 00000013 00000007 00000007 00000013" + "0357".repeat(j) + "b1";
            Mills.unitsAre("(I)V", 1, 1, code, String.format("4201 2301 032b %04x 0000 0128 ", table - 2) + "0312 ".repeat(j) + "000e"
                + (count % 2 == 1 ? " 0000" : "") + " 0100 0001 0007 0000 0004 0000");
        }
    }

    private static void tablesInOrder() {
        // Two switches, each with a default to what comes next; the tables in the order of the code, none filled up between.
        String code = "1a aa0000 00000013 fffffffe fffffffe ffffffff" + "1a ab0000 00000013 00000001 80000000 ffffffeb" + "b1";
        Mills.unitsAre("(I)V", 1, 1, code, "4201 2301 032b 000a 0000 0128 2301 032c 000b 0000 0128 000e "
            + "0100 0001 fffe ffff ffff ffff 0200 0001 0000 8000 fffa ffff");
        // One that nothing reaches has none.
        Mills.unitsAre("(I)V", 1, 1, "1a ab0000 0000000b 00000000 b1 1a 00 ab fffffff1 00000000",
            "4201 2301 032c 0006 0000 0128 000e 0000 0200 0000");
        Mills.unitsAre("()V", 0, 0, "b1 00 00 ab fffffffd 00000000", "000e");
    }

    private static void cases() throws Exception {
        for (int n : new int[] {1, 2, 59, 60}) {
            int low = -30;
            StringBuilder code = new StringBuilder(String.format("1a aa0000 ffffffff %08x %08x", low, low + n - 1));
            StringBuilder due = new StringBuilder(String.format("4201 2301 032b 0004 0000 fc28 0100 %04x ffe2 ffff", n));
            for (int i = 0; i < n; i++) {
                code.append(" ffffffff");
                due.append(" ffff ffff");
            }
            Mills.unitsAre("(I)V", 1, 1, code.toString(), due.toString());
        }
        for (int n : new int[] {0, 1, 35, 36}) {
            StringBuilder code = new StringBuilder(String.format("1a ab0000 ffffffff %08x", n));
            StringBuilder due = new StringBuilder(String.format("4201 2301 032c 0004 0000 fc28 0200 %04x", n));
            for (int i = 0; i < n; i++) {
                code.append(String.format(" %08x ffffffff", i - 2));
                due.append(String.format(" %04x %s", i - 2 & 0xffff, i < 2 ? "ffff" : "0000"));
            }
            due.append(" ffff ffff".repeat(n));
            Mills.unitsAre("(I)V", 1, 1, code.toString(), due.toString());
        }
    }

    private static void withoutUnits() {
        // nop and pop begin where the next one with a STATE begins, over what nothing reaches, too.
        RegisterMill mill = Mills.with(FileMaker.one("(I)V", 1, 1, "00 03 00 57 00 a70005 00 57 00 b1"));
        int[] due = {1, 1, 2, 2, 2, 2, -1, -1, -1, -1, 3, 3};
        for (int pc = 0; pc < due.length; pc++) {
            Due.is("begin of " + pc, mill.state(0, pc, 2), due[pc]);
        }
        // As the target of a distance.
        Mills.unitsAre("(I)V", 1, 1, "1a 990004 00 00 b1", "4201 2301 0338 0002 000e");
        Mills.unitsAre("(I)V", 1, 1, "1a 990005 00 00 b1", "4201 2301 0338 0002 000e");
    }

    /** Each instruction with its operands in registers from far below v16 to far above, against the second telling. */
    private static void sweep() throws Exception {
        String[] ints = {"57", "59", "74", "91", "92", "93", "bc0a", "3b", "3602", "990003", "9b0003", "9e0003"};
        String[] twoInts = {"5a", "5c", "5f", "60", "64", "68", "6c", "70", "78", "7a", "7c", "7e", "80", "82", "9f0003", "a10003", "a40003"};
        String[] arrays = {"57", "59", "be", "4b", "3a02", "c60003", "c70003"};
        String[] twoArrays = {"5a", "5c", "5f", "a50003", "a60003"};
        String[] arrayAndInt = {"5a", "5c", "5f", "2e"};
        for (int locals = 4; locals <= 18; locals++) {
            for (String below : new String[] {"", "04", "01 04"}) {
                sweepOne(locals, below + "05", ints);
                sweepOne(locals, below + "05 06", twoInts);
                sweepOne(locals, below + "01", arrays);
                sweepOne(locals, below + "01 01", twoArrays);
                sweepOne(locals, below + "01 05", arrayAndInt);
                sweepOne(locals, below + "05 01", new String[] {"5a", "5c", "5f"});
                sweepOne(locals, below + "01 05 06", new String[] {"4f", "5a", "5c", "5f"});
                sweepOne(locals, below, new String[] {"00", "01", "02", "08", "10f8", "10f7", "1007", "1008", "117fff", "1a", "1b", "2c", "1500",
                    "1902", "84007f", "c48400000080", "c4840001ff80", "c4840001ff7f"});
            }
        }
    }

    private static void sweepOne(int locals, String pushes, String[] ops) throws Exception {
        for (String op : ops) {
            byte[] file = FileMaker.one("(II[I)V", 8, locals, pushes + op + "b1");
            ReferenceFile.compareRight(locals + " LOCALS: " + pushes + " " + op, file, "T", "java/lang/Object");
        }
    }
}
