import java.lang.reflect.Field;
import java.nio.ByteBuffer;
import java.nio.ByteOrder;
import java.security.MessageDigest;
import java.util.Arrays;
import java.util.zip.Adler32;

/**
 * Promise 19: check() would tell 0. No call can make a file that is wrong, so this test reaches into the object and
 * breaks its bytes.
 */
public final class CheckTest {
    private static RegisterMill mill;
    private static byte[] bytes;
    private static Object[] codes;
    private static int size;

    public static void main(String[] args) throws Exception {
        Due.is("without a file", new RegisterMill().check(), 1);
        take(Picture.FILE);
        eachByte();
        eachByteWithSums();
        take(new FileMaker().method("a", "()V", 0, 0, "b1").file());
        eachByteWithSums();
        take(new FileMaker().method("a", "([II)V", 0, 2, "b1").method("a", "([I)V", 0, 1, "b1").method("b", "(I)V", 1, 1, "04 bc0a 57 b1")
            .method("c", "([III)[I", 1, 3, "2a b0").method("c", "()I", 1, 0, "08 ac").file());
        eachByteWithSums();
        header();
        registers();
        highRegisters();
        oneOperand();
        questions();
        jumps();
        switches();
        calls();
        orders();
        wholeOrders();
        nothingUnneeded();
        Due.close();
    }

    private static void take(byte[] file) throws Exception {
        mill = Mills.with(file);
        Object made = inside(mill, "registerFile");
        bytes = (byte[]) inside(made, "bytes");
        codes = (Object[]) inside(made, "codes");
        size = mill.size();
        Due.is("as it was made", mill.check(), 1);
    }

    private static Field field(Object object, String name) throws Exception {
        Field field = object.getClass().getDeclaredField(name);
        field.setAccessible(true);
        return field;
    }

    private static Object inside(Object object, String name) throws Exception {
        return field(object, name).get(object);
    }

    /** Both sums as they are due for what stands there now. */
    private static void repair() throws Exception {
        byte[] digest = MessageDigest.getInstance("SHA-1").digest(Arrays.copyOfRange(bytes, 32, size));
        System.arraycopy(digest, 0, bytes, 12, 20);
        Adler32 sum = new Adler32();
        sum.update(bytes, 12, size - 12);
        ByteBuffer.wrap(bytes).order(ByteOrder.LITTLE_ENDIAN).putInt(8, (int) sum.getValue());
    }

    private static void eachByte() {
        for (int i = 0; i < size; i++) {
            bytes[i] ^= 1;
            Due.is("byte " + i + " is another one", mill.check(), 0);
            bytes[i] ^= 1;
        }
        Due.is("as it was made", mill.check(), 1);
    }

    /** Nothing in the file is free: a byte that is another one is seen, though the sums are right for it. */
    private static void eachByteWithSums() throws Exception {
        for (int i = 0; i < size; i++) {
            for (int bit = 1; bit <= 0x80 && (i < 8 || i >= 32); bit <<= 1) {
                bytes[i] ^= bit;
                repair();
                Due.is("byte " + i + " is another one, and both sums", mill.check(), 0);
                bytes[i] ^= bit;
            }
        }
        repair();
        Due.is("as it was made", mill.check(), 1);
    }

    private static void brokenIs(String what, int place, int value, int due) throws Exception {
        byte[] before = Arrays.copyOf(bytes, size);
        ByteBuffer.wrap(bytes).order(ByteOrder.LITTLE_ENDIAN).putShort(place, (short) value);
        repair();
        Due.is(what, mill.check(), due);
        System.arraycopy(before, 0, bytes, 0, size);
    }

    private static void header() throws Exception {
        for (int place : new int[] {0, 2, 4, 6, 32, 36, 40, 42, 52}) {
            int now = bytes[place] & 0xff | (bytes[place + 1] & 0xff) << 8;
            brokenIs("the header at " + place, place, now, 1);
            brokenIs("the header at " + place, place, now + 1, 0);
        }
    }

    /** A unit that is another one in the code, too, and not only in the file. */
    private static void unitIs(String what, int m, int i, int value, int due) throws Exception {
        int[] units = (int[]) inside(codes[m], "units");
        int before = units[i];
        units[i] = value & 0xffff;
        brokenIs(what, mill.method(m, 9) + 2 * i, value, due);
        units[i] = before;
        if ((value & 0xffff) != before) {
            brokenIs("only in the file: " + what, mill.method(m, 9) + 2 * i, value, 0);
        }
    }

    private static void registers() throws Exception {
        // REGISTERS: v0, v1, LOCALS v2 .. v4, stack v5 .. v7, arguments v8 (an int), v9 (an array).
        take(new FileMaker().method("f", "(I[I)I", 3, 3, "1a 2b 03 2e 60 ac").file());
        String units = Mills.units(mill, 0);
        Due.that(units, units.equals("8201 9307 2501 3607 0712 0644 0706 65b0 050f"));
        unitIs("as it is", 0, 2, 0x2501, 1);
        unitIs("from a register that has nothing", 0, 2, 0x4501, 0);
        unitIs("from an array, as an int", 0, 2, 0x3501, 0);
        unitIs("from an int, as an array", 0, 3, 0x2607, 0);
        unitIs("to another register", 0, 2, 0x2401, 0);
        unitIs("from a register that is none", 0, 2, 0xa501, 0);
        unitIs("to a register that is none", 0, 2, 0x2a01, 0);
        unitIs("an array for an index", 0, 6, 0x0606, 0);
        unitIs("an int for an array", 0, 6, 0x0705, 0);
        unitIs("an array in a sum", 0, 7, 0x35b0, 0);
        unitIs("a sum of an array", 0, 7, 0x63b0, 0);
        unitIs("an array returned as an int", 0, 8, 0x030f, 0);
        unitIs("an array returned", 0, 8, 0x0311, 0);
        unitIs("nothing returned", 0, 8, 0x000e, 0);
        unitIs("an opcode that is none", 0, 8, 0x00ff, 0);
        unitIs("what goes on behind the code", 0, 8, 0x0000, 0);
        unitIs("longer than the code", 0, 8, 0x0013, 0);
        int place = mill.method(0, 9);
        brokenIs("REGISTERS too few", place - 16, 9, 0);
        brokenIs("arguments too few", place - 14, 1, 0);
        // 0 may be an int and null; another number is no array.
        take(FileMaker.one("()[I", 1, 0, "01 b0"));
        unitIs("null", 0, 0, 0x0212, 1);
        unitIs("a number for an array", 0, 0, 0x1212, 0);
    }

    private static void unitsAre(String due) {
        Due.that(due + " is " + Mills.units(mill, 0), Mills.units(mill, 0).equals(due));
    }

    private static void highRegisters() throws Exception {
        // LOCALS v2 .. v21, stack v22 .. v24, arguments v25 (an int), v26 (an array).
        take(FileMaker.one("(I[I)I", 3, 20, "1a 2b 04 2e 60 ac"));
        unitsAre("0202 0019 0308 001a 1602 0002 1708 0003 1813 0001 1744 1817 1690 1716 160f");
        unitIs("an int, as an array", 0, 3, 0x0019, 0);
        unitIs("an array, as an int", 0, 5, 0x0003, 0);
        unitIs("an int for an array", 0, 11, 0x1818, 0);
        unitIs("an array for an index", 0, 11, 0x1717, 0);
        unitIs("a sum with an array", 0, 13, 0x0316, 0);
        unitIs("a sum of an array", 0, 13, 0x1703, 0);
        unitIs("to a register that is none", 0, 12, 0x1b90, 0);
        // Arguments v62 (an int), v63 (an array), v64 (an int), v65 (an array): 64 is where a word of bits ends.
        take(FileMaker.one("(I[II[I)V", 20, 40, "b1"));
        unitsAre("0202 003e 0308 003f 0402 0040 0508 0041 000e");
        for (int i = 1; i <= 7; i += 2) {
            int from = mill.unit(0, i);
            unitIs("the argument before", 0, i, from - 1, 0);
            unitIs("the argument behind", 0, i, from + 1, 0);
            unitIs("this one", 0, i, from, 1);
        }
        // v2, v3 are LOCALS, v4 .. v6 the stack, v7 (an int), v8 (an array) the arguments.
        take(FileMaker.one("(I[I)V", 3, 2, "2b 04 1a 4f b1"));
        unitsAre("7201 8307 3407 1512 2601 064b 0504 000e");
        unitIs("an array for an int", 0, 5, 0x044b, 0);
        unitIs("an array for an index", 0, 6, 0x0404, 0);
        unitIs("an int for an array", 0, 6, 0x0505, 0);
        // v0, too, is a register.
        take(FileMaker.one("(I)V", 0, 1, "c48400000100 b1"));
        unitsAre("3201 0013 0100 0290 0002 000e");
        unitIs("from v1, which has nothing", 0, 4, 0x0102, 0);
    }

    private static void oneOperand() throws Exception {
        for (String op : new String[] {"74 7b", "91 8d", "92 8e", "93 8f"}) {
            int made = Integer.parseInt(op.substring(3), 16);
            take(FileMaker.one("(I[I)I", 1, 2, "1a " + op.substring(0, 2) + " ac"));
            unitsAre("5201 6307 2401 44" + op.substring(3) + " 040f");
            unitIs("of an array", 0, 3, 0x3400 | made, 0);
            unitIs("of nothing", 0, 3, 0x0400 | made, 0);
        }
        take(FileMaker.one("([I)I", 1, 1, "2a be ac"));
        unitsAre("4207 2307 3321 030f");
        unitIs("how long nothing is", 0, 2, 0x0321, 0);
        take(FileMaker.one("(I)[I", 1, 1, "1a bc0a 57 1a bc0a b0"));
        // TYPES: I, LT;, Ljava/lang/Object;, [I.
        unitsAre("4201 2301 3323 0003 2301 3323 0003 0311");
        unitIs("another TYPE, first", 0, 3, 0, 0);
        unitIs("another TYPE, then", 0, 6, 0, 0);
        unitIs("no TYPE", 0, 6, 4, 0);
        take(FileMaker.one("(I)[I", 1, 1, "1a bc0a b0"));
        unitIs("another TYPE", 0, 3, 0, 0);
    }

    /** Which of two ints, two arrays, an int, an array each question takes. */
    private static void questions() throws Exception {
        for (int q = 0; q < 8; q++) {
            int op = 0x32 + (q < 6 ? q : q - 6);
            String loads = q < 6 ? "1a 1b " : "2c 2d ";
            take(FileMaker.one("(II[I[I)V", 2, 4, loads + String.format("%02x", 0x9f + q) + " 0003 b1"));
            unitsAre("8201 9301 a407 b507 " + (q < 6 ? "2601 3701 " : "4607 5707 ") + String.format("76%02x 0002 000e", op));
            unitIs("two ints", 0, 6, 0x3200 | op, 1);
            unitIs("two arrays", 0, 6, 0x5400 | op, op <= 0x33 ? 1 : 0);
            unitIs("an int and an array", 0, 6, 0x4200 | op, 0);
            unitIs("an array and an int", 0, 6, 0x2400 | op, 0);
            unitIs("nothing and an int", 0, 6, 0x2000 | op, 0);
            unitIs("an int and nothing", 0, 6, 0x0200 | op, 0);
            unitIs("before the code", 0, 7, -7, 0);
            unitIs("behind the code", 0, 7, 3, 0);
        }
        for (int q = 0; q < 8; q++) {
            int op = 0x38 + (q < 6 ? q : q - 6);
            String asked = q < 6 ? String.format("1a %02x", 0x99 + q) : String.format("2c %02x", 0xc0 + q);
            take(FileMaker.one("(II[I[I)V", 1, 4, asked + " 0003 b1"));
            unitsAre("7201 8301 9407 a507 " + (q < 6 ? "2601 " : "4607 ") + String.format("06%02x 0002 000e", op));
            unitIs("an int", 0, 5, 0x0200 | op, 1);
            unitIs("an array", 0, 5, 0x0400 | op, op <= 0x39 ? 1 : 0);
            unitIs("nothing", 0, 5, 0x0000 | op, 0);
            unitIs("behind the code", 0, 6, 3, 0);
        }
    }

    private static void jumps() throws Exception {
        take(new FileMaker().method("f", "(I)I", 2, 2, "03 3c 1a 1b a00007 00 a7fff8 1a ac").file());
        int units = mill.method(0, 7);
        for (int i = 0; i < units; i++) {
            int unit = mill.unit(0, i);
            if ((unit & 0xff) == 0x33) {
                unitIs("a question of two ints", 0, i, unit, 1);
                unitIs("of what is none", 0, i, 0x0033, 0);
                unitIs("a distance before the code", 0, i + 1, -100, 0);
                unitIs("a distance behind the code", 0, i + 1, units - i, 0);
            }
        }
        take(FileMaker.one("(I)V", 1, 1, "00 1a 57 a7fffd"));
        unitIs("a GOTO", 0, 2, 0xff28, 1);
        unitIs("a GOTO before the code", 0, 2, 0xfd28, 0);
        unitIs("a GOTO behind the code", 0, 2, 0x0128, 0);
        take(FileMaker.one("()V", 0, 0, "a70000"));
        unitsAre("002a 0000 0000");
        unitIs("a GOTO before the code", 0, 1, 0xffff, 0);
        unitIs("a GOTO behind the code", 0, 1, 3, 0);
        unitIs("a GOTO far behind the code", 0, 2, 1, 0);
        take(FileMaker.one("()V", 1, 0, "0357".repeat(130) + "a7fefc"));
        Due.is("29", mill.unit(0, 130), 0x29);
        unitIs("to the code's beginning", 0, 131, -130, 1);
        unitIs("a GOTO before the code", 0, 131, -131, 0);
        unitIs("a GOTO behind the code", 0, 131, 2, 0);
    }

    private static void switches() throws Exception {
        take(FileMaker.one("(I)V", 1, 1, "1a ab0000 00000013 00000001 00000007 00000013 b1"));
        // 4201 2301 032c 0006 0000 0128 000e 0000 0200 0001 0007 0000 0004 0000
        unitIs("as it is", 0, 3, 6, 1);
        unitIs("an odd place", 0, 3, 5, 0);
        unitIs("no table there", 0, 3, 8, 0);
        unitIs("of a register that has nothing", 0, 2, 0x002c, 0);
        unitIs("a distance behind the code", 0, 12, 100, 0);
        unitIs("too many cases", 0, 9, 61, 0);
        take(FileMaker.one("(I)V", 1, 1, "1a aa0000 00000017 00000007 00000008 00000017 00000017 b1"));
        unitsAre("4201 2301 032b 0006 0000 0128 000e 0000 0100 0002 0007 0000 0004 0000 0004 0000");
        unitIs("another kind of table", 0, 8, 0x0101, 0);
        unitIs("of a register that has nothing", 0, 2, 0x002b, 0);
        for (int i = 12; i < 16; i++) {
            unitIs("a distance behind the code", 0, i, 100, 0);
        }
    }

    private static void calls() throws Exception {
        FileMaker maker = new FileMaker();
        int call = maker.own("g", "(I[I)I");
        take(maker.method("f", "()I", 2, 0, String.format("03 01 b800%02x ac", call)).method("g", "(I[I)I", 1, 2, "1a ac").file());
        // 0212 0312 0277 0001 0002 020a 020f
        unitIs("as it is", 0, 2, 0x0277, 1);
        unitIs("too few passed", 0, 2, 0x0177, 0);
        unitIs("no such METHOD", 0, 3, 2, 0);
        unitIs("another METHOD", 0, 3, 0, 0);
        unitIs("other registers", 0, 4, 3, 0);
        unitIs("an array for an int", 0, 5, 0x020c, 0);
        unitIs("an int for an array", 0, 1, 0x1312, 0);
        brokenIs("most registers of a 77", mill.method(0, 9) - 12, 1, 0);
        // LOCAL v2 (an array), stack v3, v4, argument v5.
        maker = new FileMaker();
        call = maker.own("g", "(I[I)I");
        take(maker.method("f", "([I)I", 2, 1, String.format("04 01 b800%02x ac", call)).method("g", "(I[I)I", 1, 2, "1a ac").file());
        unitsAre("5207 1312 0412 0277 0001 0003 030a 030f");
        unitIs("an array for the first argument", 0, 1, 0x2307, 0);
        unitIs("a number for the second argument", 0, 2, 0x1412, 0);
        maker = new FileMaker();
        call = maker.own("g", "(I)[I");
        take(maker.method("f", "()[I", 1, 0, String.format("04 b800%02x b0", call)).method("g", "(I)[I", 1, 1, "01 b0").file());
        unitIs("what comes back is an array", 0, 4, 0x020c, 1);
        unitIs("to another register", 0, 4, 0x000c, 0);
        unitIs("what comes back is no int", 0, 4, 0x020a, 0);
        maker = new FileMaker();
        call = maker.own("g", "()V");
        take(maker.method("f", "()V", 0, 0, String.format("b800%02x b1", call)).method("g", "()V", 0, 0, "b1").file());
        unitsAre("0077 0001 0002 000e");
        unitIs("no such METHOD", 0, 1, 2, 0);
        unitIs("nothing comes back", 0, 3, 0x000a, 0);
        maker = new FileMaker();
        call = maker.own("g", "(I[I)I");
        take(maker.method("f", "()I", 2, 0, String.format("03 01 b800%02x ac", call)).method("g", "(I[I)I", 1, 2, "1a ac").file());
        // 0a without a 77 before it.
        unitIs("no 77", 0, 2, 0x0213, 0);
    }

    private static void orders() throws Exception {
        take(new FileMaker().method("a", "()V", 0, 0, "b1").method("b", "()V", 0, 0, "b1").file());
        ByteBuffer all = ByteBuffer.wrap(bytes).order(ByteOrder.LITTLE_ENDIAN);
        int strings = all.getInt(60);
        int types = all.getInt(68);
        int methods = all.getInt(92);
        brokenIs("STRINGS that do not rise", strings, all.getShort(strings + 4), 0);
        brokenIs("TYPES that do not rise", types, all.getShort(types + 4), 0);
        brokenIs("METHODS that do not rise", methods + 4, all.getShort(methods + 12), 0);
        int map = all.getInt(52);
        brokenIs("lines of the MAP", map, all.getShort(map) + 1, 0);
        for (int i = 1; i < all.getInt(map); i++) {
            brokenIs("a place in the MAP", map + 4 + 12 * i + 8, 0, 0);
        }
    }

    private static ByteBuffer words() {
        return ByteBuffer.wrap(bytes).order(ByteOrder.LITTLE_ENDIAN);
    }

    private static void swapWords(int one, int other) {
        int kept = words().getInt(one);
        words().putInt(one, words().getInt(other));
        words().putInt(other, kept);
    }

    private static void swapBytes(int one, int other) {
        byte kept = bytes[one];
        bytes[one] = bytes[other];
        bytes[other] = kept;
    }

    private static void seen(String what) throws Exception {
        repair();
        Due.is(what, mill.check(), 0);
    }

    /** Where a section stands: 0 STRINGS, 1 TYPES, 2 PROTOS, 4 METHODS, 5 CLASSES. */
    private static int section(int number) {
        return words().getInt(60 + 8 * number);
    }

    /** Two of a kind change their places, and all that tells them tells them there: only their order is wrong. */
    private static void wholeOrders() throws Exception {
        byte[] two = new FileMaker().method("a", "(I)V", 0, 1, "b1").method("b", "([I)V", 0, 1, "b1").file();
        // STRINGS: I LT; Ljava/lang/Object; V VI VL [I a b; TYPES I LT; L..; V [I; PROTOS (I)V ([I)V
        take(two);
        swapBytes(words().getInt(section(0) + 16) + 2, words().getInt(section(0) + 20) + 2);
        swapWords(section(2), section(2) + 12);
        seen("STRINGS VL, VI");
        take(two);
        swapWords(section(1) + 4, section(1) + 8);
        swapWords(section(5), section(5) + 8);
        for (int i = 0; i < 2; i++) {
            words().putShort(section(4) + 8 * i, (short) 2);
        }
        seen("TYPES Ljava/lang/Object;, LT;");
        take(two);
        swapWords(section(2), section(2) + 12);
        int list = words().getInt(section(2) + 8);
        int other = words().getInt(section(2) + 20);
        swapBytes(list + 4, other + 4);
        swapBytes(section(4) + 2, section(4) + 10);
        seen("PROTOS ([I)V, (I)V");
        take(new FileMaker().method("a", "()V", 0, 0, "b1").method("b", "()V", 0, 0, "b1").file());
        swapWords(section(4) + 4, section(4) + 12);
        swapNumbers();
        seen("METHODS b, a");
        take(new FileMaker().method("a", "(I)V", 0, 1, "b1").method("a", "([I)V", 0, 1, "b1").file());
        swapBytes(section(4) + 2, section(4) + 10);
        swapNumbers();
        // The arguments' moves are what tells the codes apart.
        swapWords(mill.method(0, 9), mill.method(1, 9));
        seen("METHODS a([I)V, a(I)V");
    }

    private static void swapNumbers() throws Exception {
        Object names = inside(inside(mill, "registerFile"), "names");
        for (String row : new String[] {"numberOf", "methodAt"}) {
            int[] numbers = (int[]) inside(names, row);
            int kept = numbers[0];
            numbers[0] = numbers[1];
            numbers[1] = kept;
        }
    }

    /** The STACK FILE is changed so that something in the REGISTER FILE is not needed any more. */
    private static void nothingUnneeded() throws Exception {
        take(new FileMaker().method("a", "()V", 0, 0, "b1").method("b", "(I)V", 0, 1, "b1").file());
        Object[] methods = (Object[]) inside(inside(mill, "loaded"), "methods");
        field(methods[1], "name").set(methods[1], inside(methods[0], "name"));
        words().putInt(section(4) + 12, words().getInt(section(4) + 4));
        seen("the STRING b");
        take(new FileMaker().method("a", "(I)V", 1, 1, "04 bc0a 57 b1").file());
        unitsAre("4201 1312 3323 0004 000e");
        unitIs("the TYPE [I", 0, 2, 0x0313, 0);
        // The shorty VL is a name, too, and [I is needed for c, so that only the PROTO is left.
        take(new FileMaker().method("VL", "([I)V", 0, 1, "b1").method("a", "(I)V", 0, 1, "b1").method("c", "()[I", 1, 0, "01 b0").file());
        methods = (Object[]) inside(inside(mill, "loaded"), "methods");
        ((int[]) inside(methods[0], "argumentTypes"))[0] = 1;
        words().putShort(section(4) + 2, words().getShort(section(4) + 10));
        ((int[]) inside(codes[0], "units"))[0] = mill.unit(1, 0);
        words().putShort(mill.method(0, 9), (short) mill.unit(1, 0));
        seen("the PROTO ([I)V");
    }
}
