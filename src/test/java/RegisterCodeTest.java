/** Promises 6 to 8, section 3: the units of each instruction, in low and in high registers. */
public final class RegisterCodeTest {
    public static void main(String[] args) {
        shared();
        numbers();
        moves();
        shuffles();
        sums();
        ones();
        locals();
        arrays();
        questions();
        calls();
        leftOut();
        gotos();
        switches();
        faces();
        Due.close();
    }

    private static void shared() {
        Mills.unitsAre("(II)I", 3, 3, "1a 1b 60 ac", "8201 9301 2501 3601 65b0 050f");
        Mills.unitsAre("()V", 0, 0, "b1", "000e");
        Mills.unitsAre("([II[I)[I", 1, 3, "2a b0", "6207 7301 8407 2507 0511");
    }

    private static void numbers() {
        Mills.unitsAre("()V", 1, 0, "02 57 03 57 04 57 05 57 06 57 07 57 08 57 01 57 b1", "f212 0212 1212 2212 3212 4212 5212 0212 000e");
        Mills.unitsAre("()V", 1, 0, "10f8 57 1007 57 10f7 57 1008 57 1080 57 107f 57 b1",
            "8212 7212 0213 fff7 0213 0008 0213 ff80 0213 007f 000e");
        Mills.unitsAre("()V", 1, 0, "11fff8 57 110007 57 118000 57 117fff 57 b1", "8212 7212 0213 8000 0213 7fff 000e");
        int[] values = {0, -8, 8, 32767, -32768, 32768, -32769, 65536, -65536, 0x80000000, 0x7fff0000, 0x7fffffff, 0x12345678, 65535};
        String[] low = {"0212", "8212", "0213 0008", "0213 7fff", "0213 8000", "0214 8000 0000", "0214 7fff ffff", "0215 0001", "0215 ffff",
            "0215 8000", "0215 7fff", "0214 ffff 7fff", "0214 5678 1234", "0214 ffff 0000"};
        String[] high = {"1013 0000", "1013 fff8", "1013 0008", "1013 7fff", "1013 8000", "1014 8000 0000", "1014 7fff ffff", "1015 0001",
            "1015 ffff", "1015 8000", "1015 7fff", "1014 ffff 7fff", "1014 5678 1234", "1014 ffff 0000"};
        for (int i = 0; i < values.length; i++) {
            FileMaker maker = new FileMaker();
            int constant = maker.integer(values[i]);
            maker.method("f", "()V", 1, 0, String.format("12 %02x 57 b1", constant));
            maker.method("g", "()V", 1, 14, String.format("13 00%02x 57 b1", constant));
            RegisterMill mill = Mills.with(maker.file());
            Due.that("low " + values[i], Mills.units(mill, 0).equals(low[i] + " 000e"));
            Due.that("high " + values[i], Mills.units(mill, 1).equals(high[i] + " 000e"));
        }
        Mills.unitsAre("()V", 2, 13, "07 01 b1", "4f12 1013 0000 000e");
    }

    private static void moves() {
        // v15 is the last low one: LOCALS v2 .. v14, the stack from v15 on.
        Mills.unitsAre("(I)V", 2, 13, "1a 1a b1", "0202 0011 2f01 1002 0002 000e");
        Mills.unitsAre("(I)V", 1, 13, "1a b1", "0202 0010 2f01 000e");
        Mills.unitsAre("([I)V", 2, 13, "2a 2a 4e 4e b1", "0208 0011 2f07 1008 0002 0508 0010 f507 000e");
        Mills.unitsAre("()V", 1, 14, "03 360d 150d 57 b1", "1013 0000 0f02 0010 1002 000f 000e");
        Mills.unitsAre("()V", 1, 14, "01 c43a000d c419000d 57 b1", "1013 0000 0f08 0010 1008 000f 000e");
        Mills.unitsAre("()V", 1, 4, "03 3b 03 3c 03 3d 03 3e 1a 57 1b 57 1c 57 1d 57 b1",
            "0612 6201 0612 6301 0612 6401 0612 6501 2601 3601 4601 5601 000e");
        Mills.unitsAre("()V", 1, 4, "01 4b 01 4c 01 4d 01 4e 2a 57 2b 57 2c 57 2d 57 b1",
            "0612 6207 0612 6307 0612 6407 0612 6507 2607 3607 4607 5607 000e");
        Mills.unitsAre("(IIIIIIII)V", 0, 8, "b1", "a201 b301 c401 d501 e601 f701 0802 0010 0902 0011 000e");
    }

    private static void shuffles() {
        Mills.unitsAre("()V", 4, 0, "01 59 b1", "0212 2307 000e");
        Mills.unitsAre("()V", 4, 0, "03 59 b1", "0212 2301 000e");
        Mills.unitsAre("()V", 4, 0, "01 05 5a b1", "0212 2312 3401 2307 4201 000e");
        Mills.unitsAre("()V", 4, 0, "05 01 5a b1", "2212 0312 3407 2301 4207 000e");
        Mills.unitsAre("()V", 4, 0, "01 05 5c b1", "0212 2312 2407 3501 000e");
        Mills.unitsAre("()V", 4, 0, "05 01 5c b1", "2212 0312 2401 3507 000e");
        Mills.unitsAre("()V", 4, 0, "01 05 5f b1", "0212 2312 3001 2307 0201 000e");
        Mills.unitsAre("()V", 4, 0, "05 01 5f b1", "2212 0312 3007 2301 0207 000e");
        // x is v15, y v16.
        Mills.unitsAre("()V", 4, 13, "01 05 5f b1", "0f12 1013 0002 0002 0010 1008 000f 0f01 000e");
        Mills.unitsAre("()V", 4, 13, "01 05 5a b1", "0f12 1013 0002 1102 0010 1008 000f 0f02 0011 000e");
        Mills.unitsAre("()V", 4, 13, "01 05 5c b1", "0f12 1013 0002 1108 000f 1202 0010 000e");
        Mills.unitsAre("()V", 4, 13, "01 59 b1", "0f12 1008 000f 000e");
        Mills.unitsAre("()V", 4, 14, "01 05 5f b1", "1013 0000 1113 0002 0002 0011 1108 0010 1002 0000 000e");
    }

    private static void sums() {
        int[] ops = {0x60, 0x64, 0x68, 0x6c, 0x70, 0x7e, 0x80, 0x82, 0x78, 0x7a, 0x7c};
        for (int i = 0; i < ops.length; i++) {
            Mills.unitsAre("()I", 2, 0, String.format("04 05 %02x ac", ops[i]), String.format("1212 2312 32%02x 020f", 0xb0 + i));
            Mills.unitsAre("()I", 2, 12, String.format("04 05 %02x ac", ops[i]), String.format("1e12 2f12 fe%02x 0e0f", 0xb0 + i));
            Mills.unitsAre("()I", 2, 13, String.format("04 05 %02x ac", ops[i]), String.format("1f12 1013 0002 0f%02x 100f 0f0f", 0x90 + i));
            Mills.unitsAre("()I", 2, 20, String.format("04 05 %02x ac", ops[i]), String.format("1613 0001 1713 0002 16%02x 1716 160f", 0x90 + i));
        }
    }

    private static void ones() {
        int[] ops = {0x74, 0x91, 0x92, 0x93};
        int[] due = {0x7b, 0x8d, 0x8e, 0x8f};
        for (int i = 0; i < ops.length; i++) {
            Mills.unitsAre("()I", 1, 0, String.format("04 %02x ac", ops[i]), String.format("1212 22%02x 020f", due[i]));
            Mills.unitsAre("()I", 1, 13, String.format("04 %02x ac", ops[i]), String.format("1f12 ff%02x 0f0f", due[i]));
            Mills.unitsAre("()I", 1, 14, String.format("04 %02x ac", ops[i]), String.format("1013 0001 0002 0010 00%02x 1002 0000 100f", due[i]));
        }
        Mills.unitsAre("()I", 1, 0, "01 be ac", "0212 2221 020f");
        Mills.unitsAre("()I", 1, 14, "01 be ac", "1013 0000 0008 0010 0021 1002 0000 100f");
        // TYPES: I, LT; Ljava/lang/Object; [I by their bytes, without I in ()V: there V.
        Mills.unitsAre("()[I", 1, 0, "04 bc0a b0", "1212 2223 0002 0211");
        Mills.unitsAre("()V", 1, 14, "04 bc0a b1", "1013 0001 0002 0010 0023 0003 1008 0000 000e");
        Mills.unitsAre("(I)V", 1, 1, "04 bc0a b1", "4201 1312 3323 0004 000e");
    }

    private static void locals() {
        Mills.unitsAre("(I)V", 0, 1, "84 0001 b1", "3201 02d8 0102 000e");
        Mills.unitsAre("(I)V", 0, 1, "84 0080 b1", "3201 02d8 8002 000e");
        Mills.unitsAre("(I)V", 0, 1, "84 007f b1", "3201 02d8 7f02 000e");
        Mills.unitsAre("(I)V", 0, 1, "84 0000 b1", "3201 02d8 0002 000e");
        Mills.unitsAre("(I)V", 0, 1, "c4 84 0000 007f b1", "3201 02d8 7f02 000e");
        Mills.unitsAre("(I)V", 0, 1, "c4 84 0000 ff80 b1", "3201 02d8 8002 000e");
        Mills.unitsAre("(I)V", 0, 1, "c4 84 0000 0080 b1", "3201 0013 0080 0290 0002 000e");
        Mills.unitsAre("(I)V", 0, 1, "c4 84 0000 ff7f b1", "3201 0013 ff7f 0290 0002 000e");
        Mills.unitsAre("()V", 1, 20, "03 3612 84 12 ff c4 84 0012 8000 b1", "1613 0000 1402 0016 14d8 ff14 0013 8000 1490 0014 000e");
    }

    private static void arrays() {
        Mills.unitsAre("()I", 3, 0, "01 05 2e ac", "0212 2312 0244 0302 020f");
        Mills.unitsAre("()V", 3, 0, "01 05 07 4f b1", "0212 2312 4412 044b 0302 000e");
        Mills.unitsAre("()I", 3, 20, "01 05 2e ac", "1613 0000 1713 0002 1644 1716 160f");
        Mills.unitsAre("()V", 3, 20, "01 05 07 4f b1", "1613 0000 1713 0002 1813 0004 184b 1716 000e");
    }

    private static void questions() {
        for (int i = 0; i < 6; i++) {
            Mills.unitsAre("()V", 1, 0, String.format("03 %02x 0004 00 b1", 0x99 + i), String.format("0212 02%02x 0002 000e", 0x38 + i));
            Mills.unitsAre("()V", 1, 20, String.format("03 %02x 0003 b1", 0x99 + i), String.format("1613 0000 16%02x 0002 000e", 0x38 + i));
            Mills.unitsAre("()V", 1, 0, String.format("03 %02x ffff b1", 0x99 + i), String.format("0212 02%02x ffff 000e", 0x38 + i));
            Mills.unitsAre("()V", 2, 0, String.format("03 04 %02x fffe b1", 0x9f + i), String.format("0212 1312 32%02x fffe 000e", 0x32 + i));
            Mills.unitsAre("()V", 2, 13, String.format("03 04 %02x 0003 b1", 0x9f + i),
                String.format("0f12 1013 0001 f001 0102 0010 10%02x 0002 000e", 0x32 + i));
            Mills.unitsAre("()V", 2, 12, String.format("03 04 %02x 0003 b1", 0x9f + i), String.format("0e12 1f12 fe%02x 0002 000e", 0x32 + i));
        }
        for (int i = 0; i < 2; i++) {
            Mills.unitsAre("()V", 1, 0, String.format("01 %02x 0003 b1", 0xc6 + i), String.format("0212 02%02x 0002 000e", 0x38 + i));
            Mills.unitsAre("()V", 2, 0, String.format("01 01 %02x 0003 b1", 0xa5 + i), String.format("0212 0312 32%02x 0002 000e", 0x32 + i));
            Mills.unitsAre("()V", 2, 14, String.format("01 01 %02x fffe b1", 0xa5 + i),
                String.format("1013 0000 1113 0000 0008 0010 0108 0011 10%02x fff8 000e", 0x32 + i));
        }
    }

    private static void calls() {
        FileMaker maker = new FileMaker();
        int none = maker.own("b", "()V");
        int two = maker.own("a", "(I[I)I");
        int array = maker.own("c", "()[I");
        maker.method("f", "()V", 3, 1, String.format("b800%02x 03 04 01 b800%02x 57 57 b800%02x 57 b1", none, two, array));
        maker.method("b", "()V", 0, 0, "b1");
        maker.method("a", "(I[I)I", 1, 2, "1a ac");
        maker.method("c", "()[I", 1, 0, "01 b0");
        maker.method("full", "([I)V", 1, 2, String.format("2a b800%02x b1", none));
        RegisterMill mill = Mills.with(maker.file());
        // In the REGISTER FILE: a 0, b 1, c 2, f 3, full 4. A call of none tells the register above the stack.
        Due.that("calls: " + Mills.units(mill, 0),
            Mills.units(mill, 0).equals("0077 0001 0003 0312 1412 0512 0277 0000 0004 040a 0077 0002 0003 030c 000e"));
        Due.that("a full stack: " + Mills.units(mill, 4), Mills.units(mill, 4).equals("5207 2407 0077 0001 0005 000e"));
        int[] numbers = {3, 1, 0, 2, 4};
        for (int m = 0; m < 5; m++) {
            Due.is("method(" + m + ", 5)", mill.method(m, 5), numbers[m]);
        }
        // How many are passed at most, behind REGISTERS and arguments.
        Due.is("outs", mill.out(mill.method(0, 9) - 12), 2);
        Due.is("outs", mill.out(mill.method(1, 9) - 12), 0);
        Due.is("outs", mill.out(mill.method(4, 9) - 12), 0);
    }

    private static void leftOut() {
        // 0: 03, 1: 57, 2: a7 to 7, 5: 04 57 reached by nothing, 7: b1
        RegisterMill mill = Mills.with(FileMaker.one("()V", 1, 0, "03 57 a7 0005 04 57 b1"));
        Due.that("left out: " + Mills.units(mill, 0), Mills.units(mill, 0).equals("0212 0128 000e"));
        int[] begins = {0, 1, 1, -1, -1, -1, -1, 2};
        for (int pc = 0; pc < 8; pc++) {
            Due.is("begin " + pc, mill.state(0, pc, 2), begins[pc]);
        }
        // A new array that nothing reaches needs no TYPE [I.
        mill = Mills.with(FileMaker.one("()V", 1, 0, "b1 03 bc 0a"));
        Due.is("TYPES", mill.out(64), 3);
        mill = Mills.with(FileMaker.one("()V", 1, 0, "03 bc 0a 57 b1"));
        Due.is("TYPES", mill.out(64), 4);
    }

    private static void gotos() {
        Mills.unitsAre("()V", 0, 0, "a7 0000", "002a 0000 0000");
        Mills.unitsAre("()V", 0, 0, "00 00 a7 fffe", "002a 0000 0000");
        Mills.unitsAre("()V", 1, 0, "03 57 a7 fffe", "0212 ff28");
        Mills.unitsAre("()V", 0, 0, "a7 0003 b1", "0128 000e");
        Mills.unitsAre("()V", 0, 0, "a7 0004 ac b1", "0128 000e");
        // Backward over k units of one instruction each.
        for (int k = 125; k <= 131; k++) {
            String code = "0357".repeat(k) + String.format("a7%04x", -2 * k & 0xffff);
            String due = "0212 ".repeat(k) + (k <= 128 ? String.format("%02x28", -k & 0xff) : String.format("0029 %04x", -k & 0xffff));
            Mills.unitsAre("()V", 1, 0, code, due);
        }
        // Forward over k units, which 99 reaches.
        for (int k = 124; k <= 129; k++) {
            String code = "1a 990006" + String.format("a7%04x", 3 + 2 * k) + "0357".repeat(k) + "b1";
            boolean small = k + 1 <= 127;
            String due = "4201 2301 0338 " + (small ? "0003 " : "0004 ") + (small ? String.format("%02x28 ", k + 1) : String.format("0029 %04x ", k + 2))
                + "0312 ".repeat(k) + "000e";
            Mills.unitsAre("(I)V", 1, 1, code, due);
        }
        rounds();
    }

    /** A GOTO that holds its distance till another one within it gets longer. */
    private static void rounds() {
        // 0: 1a, 1: 99 to 7, 4: a7 to e; 7: 1a, 8: 99 to 14, 11: a7 back to 0 or on to f; 14: k times 03 57; e: b1
        for (int k = 115; k <= 125; k++) {
            int end = 14 + 2 * k;
            String code = "1a 990006" + String.format("a7%04x", end - 4) + "1a 990006" + String.format("a7%04x", end - 11) + "0357".repeat(k) + "b1";
            // Units from the first GOTO to the end: itself, load, 99 (2), the second GOTO, k.
            int first = 1;
            int second = 1;
            for (int round = 0; round < 3; round++) {
                int d1 = first + 3 + second + k;
                int d2 = second + k;
                first = d1 > 127 ? 2 : 1;
                second = d2 > 127 ? 2 : 1;
            }
            int d1 = first + 3 + second + k;
            int d2 = second + k;
            String due = "4201 2301 0338 " + String.format("%04x ", 2 + first)
                + (first == 1 ? String.format("%02x28 ", d1) : String.format("0029 %04x ", d1))
                + "2301 0338 " + String.format("%04x ", 2 + second)
                + (second == 1 ? String.format("%02x28 ", d2) : String.format("0029 %04x ", d2)) + "0312 ".repeat(k) + "000e";
            Mills.unitsAre("(I)V", 1, 1, code, due);
        }
        // The inner one goes back over 129 units and gets longer; the outer one, over all of it, held 127 before.
        // 0: k times 03 57; then 1a, 99 +6, a7 to e; then j times 03 57, 1a, 99 +6 to e', a7 to 0; e: b1
        int k = 20;
        int j = 121;
        int at = 2 * k;
        int end = at + 7 + 2 * j + 7;
        String code = "0357".repeat(k) + "1a 990006" + String.format("a7%04x", end - at - 4) + "0357".repeat(j) + "1a 990006"
            + String.format("a7%04x", -(end - 3) & 0xffff) + "b1";
        // Small: the outer goes over itself, j, load, 99, the inner one: 1 + 121 + 3 + 1 = 126; the inner one back over 147.
        Due.is("bytes", code.replace(" ", "").length() / 2, end + 1);
        String due = "4201 " + "0312 ".repeat(k) + "2301 0338 0003 7f28 " + "0312 ".repeat(j) + "2301 0338 0004 0029 "
            + String.format("%04x ", -(j + k + 3 + 1 + 3) & 0xffff) + "000e";
        Mills.unitsAre("(I)V", 1, 1, code, due);
        // One more, and the outer one gets longer in the second round, by which the inner one's distance grows.
        j = 122;
        k = 19;
        at = 2 * k;
        end = at + 7 + 2 * j + 7;
        code = "0357".repeat(k) + "1a 990006" + String.format("a7%04x", end - at - 4) + "0357".repeat(j) + "1a 990006"
            + String.format("a7%04x", -(end - 3) & 0xffff) + "b1";
        due = "4201 " + "0312 ".repeat(k) + "2301 0338 0004 0029 " + String.format("%04x ", 2 + j + 3 + 2) + "0312 ".repeat(j)
            + "2301 0338 0004 0029 " + String.format("%04x ", -(j + k + 3 + 2 + 3) & 0xffff) + "000e";
        Mills.unitsAre("(I)V", 1, 1, code, due);
    }

    private static void switches() {
        // Units: 0 MOVE, 1 load, 2 2b (3), 5 GOTO, 6: 0e; the table at 8 behind a unit 0000.
        Mills.unitsAre("(I)V", 1, 1, "1a aa 0000 00000017 00000007 00000008 00000017 00000017 b1",
            "4201 2301 032b 0006 0000 0128 000e 0000 0100 0002 0007 0000 0004 0000 0004 0000");
        // Without a unit 0000: a return of an int has one unit more before it.
        Mills.unitsAre("(I)I", 1, 1, "1a aa 0000 00000013 ffffffff ffffffff 00000013 05 ac",
            "4201 2301 032b 0006 0000 0128 2312 030f 0100 0001 ffff ffff 0004 0000");
        Mills.unitsAre("(I)V", 1, 1, "1a ab 0000 0000000b 00000000 b1", "4201 2301 032c 0006 0000 0128 000e 0000 0200 0000");
        Mills.unitsAre("(I)V", 1, 1, "1a ab 0000 0000001c 00000002 80000000 0000001b 00010002 ffffffff 00 b1",
            "4201 2301 032c 0006 0000 0128 000e 0000 0200 0002 0000 8000 0002 0001 0004 0000 ffff ffff");
        // Two: the tables in their order, and a default that goes back.
        String two = "1a ab 0000 0000000b 00000000" + "1a ab 0000 fffffff3 00000001 00000005 00000013" + "b1";
        Mills.unitsAre("(I)V", 1, 1, two,
            "4201 2301 032c 000a 0000 0128 2301 032c 0007 0000 f728 000e 0200 0000 0200 0001 0005 0000 0004 0000");
        // High registers, and what is not reached has no table.
        Mills.unitsAre("(I)V", 1, 14, "1a ab 0000 0000000b 00000000 b1 00 00 ab 00000000 00000000",
            "0202 0011 1002 0002 102c 0006 0000 0128 000e 0000 0200 0000");
    }

    private static void faces() {
        RegisterMill mill = Mills.with(FileMaker.one("(I[I)I", 3, 4, "c4 15 0000 00 57 03 ac 19 01"));
        int[] due = {2, 1, 3, 4, 10, 0, 11, 5};
        for (int what = 0; what < due.length; what++) {
            Due.is("method(0, " + what + ")", mill.method(0, what), due[what]);
        }
        Due.is("method(0, 10)", mill.method(0, 10), 1);
        Due.is("method(0, 11)", mill.method(0, 11), 2);
        for (int what : new int[] {-1, 12, 13, 18, 100, Integer.MIN_VALUE, Integer.MAX_VALUE}) {
            Due.is("method(0, " + what + ")", mill.method(0, what), -1);
        }
        for (int m : new int[] {-1, 1, 8, Integer.MIN_VALUE, Integer.MAX_VALUE}) {
            Due.is("method(" + m + ", 0)", mill.method(m, 0), -1);
            Due.is("state(" + m + ", 0, 0)", mill.state(m, 0, 0), -1);
            Due.is("unit(" + m + ", 0)", mill.unit(m, 0), -1);
            Due.is("run(0, " + m + ", 5)", mill.run(0, m, 5), -8);
        }
        for (int i : new int[] {-1, mill.method(0, 7), Integer.MIN_VALUE, Integer.MAX_VALUE}) {
            Due.is("unit(0, " + i + ")", mill.unit(0, i), -1);
        }
        Due.is("opcode c4", mill.state(0, 0, 1), 0xc4);
        Due.is("no instruction", mill.state(0, 1, 1), -1);
        Due.is("no instruction", mill.state(0, 2, 0), -1);
        Due.is("opcode 00", mill.state(0, 4, 1), 0);
        Due.is("depth", mill.state(0, 4, 0), 1);
        Due.is("stack", mill.state(0, 4, 60), 1);
        Due.is("above the stack", mill.state(0, 4, 61), -1);
        Due.is("LOCAL 1", mill.state(0, 4, 11), 2);
        Due.is("LOCAL 2", mill.state(0, 4, 12), 0);
        Due.is("LOCAL 4", mill.state(0, 4, 14), -1);
        Due.is("begin of one without units", mill.state(0, 4, 2), 3);
        Due.is("begin of one without units", mill.state(0, 5, 2), 3);
        Due.is("begin of the next", mill.state(0, 6, 2), 3);
        Due.is("opcode without a STATE", mill.state(0, 8, 1), 0x19);
        for (int what : new int[] {0, 2, 10, 60}) {
            Due.is("state(0, 8, " + what + ")", mill.state(0, 8, what), -1);
        }
        for (int what : new int[] {-1, 3, 9, 50, 59, 100, Integer.MIN_VALUE, Integer.MAX_VALUE}) {
            Due.is("state(0, 0, " + what + ")", mill.state(0, 0, what), -1);
        }
        for (int pc : new int[] {-1, 9, 10, 300, Integer.MIN_VALUE, Integer.MAX_VALUE}) {
            Due.is("state(0, " + pc + ", 0)", mill.state(0, pc, 0), -1);
            Due.is("state(0, " + pc + ", 1)", mill.state(0, pc, 1), -1);
        }
    }
}
