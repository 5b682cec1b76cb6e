import java.lang.reflect.Field;
import java.nio.ByteBuffer;
import java.nio.ByteOrder;
import java.security.MessageDigest;
import java.util.Arrays;
import java.util.zip.Adler32;

/**
 * Promise 19: check() would tell 0. No call can make a file that is wrong, so this test reaches into the object and
 * breaks its bytes.
 */
public final class CheckTest {
    private static RegisterMill mill;
    private static byte[] bytes;
    private static int size;

    public static void main(String[] args) throws Exception {
        Due.is("without a file", new RegisterMill().check(), 1);
        take(Picture.FILE);
        eachByte();
        header();
        registers();
        jumps();
        switches();
        calls();
        orders();
        Due.close();
    }

    private static void take(byte[] file) throws Exception {
        mill = Mills.with(file);
        Field files = RegisterMill.class.getDeclaredField("registerFile");
        files.setAccessible(true);
        Field row = files.get(mill).getClass().getDeclaredField("bytes");
        row.setAccessible(true);
        bytes = (byte[]) row.get(files.get(mill));
        size = mill.size();
        Due.is("as it was made", mill.check(), 1);
    }

    /** Both sums as they are due for what stands there now. */
    private static void repair() throws Exception {
        byte[] digest = MessageDigest.getInstance("SHA-1").digest(Arrays.copyOfRange(bytes, 32, size));
        System.arraycopy(digest, 0, bytes, 12, 20);
        Adler32 sum = new Adler32();
        sum.update(bytes, 12, size - 12);
        ByteBuffer.wrap(bytes).order(ByteOrder.LITTLE_ENDIAN).putInt(8, (int) sum.getValue());
    }

    private static void eachByte() {
        for (int i = 0; i < size; i++) {
            bytes[i] ^= 1;
            Due.is("byte " + i + " is another one", mill.check(), 0);
            bytes[i] ^= 1;
        }
        Due.is("as it was made", mill.check(), 1);
    }

    private static void brokenIs(String what, int place, int value, int due) throws Exception {
        byte[] before = Arrays.copyOf(bytes, size);
        ByteBuffer.wrap(bytes).order(ByteOrder.LITTLE_ENDIAN).putShort(place, (short) value);
        repair();
        Due.is(what, mill.check(), due);
        System.arraycopy(before, 0, bytes, 0, size);
    }

    private static void header() throws Exception {
        for (int place : new int[] {0, 2, 4, 6, 32, 36, 40, 42, 52}) {
            int now = bytes[place] & 0xff | (bytes[place + 1] & 0xff) << 8;
            brokenIs("the header at " + place, place, now, 1);
            brokenIs("the header at " + place, place, now + 1, 0);
        }
    }

    private static void unitIs(String what, int m, int i, int value, int due) throws Exception {
        brokenIs(what, mill.method(m, 9) + 2 * i, value, due);
    }

    private static void registers() throws Exception {
        // REGISTERS: v0, v1, LOCALS v2 .. v4, stack v5 .. v7, arguments v8 (an int), v9 (an array).
        take(new FileMaker().method("f", "(I[I)I", 3, 3, "1a 2b 03 2e 60 ac").file());
        String units = Mills.units(mill, 0);
        Due.that(units, units.equals("8201 9307 2501 3607 0712 0644 0706 65b0 050f"));
        unitIs("as it is", 0, 2, 0x2501, 1);
        unitIs("from a register that has nothing", 0, 2, 0x4501, 0);
        unitIs("from an array, as an int", 0, 2, 0x3501, 0);
        unitIs("from an int, as an array", 0, 3, 0x2607, 0);
        unitIs("to another register", 0, 2, 0x2401, 0);
        unitIs("from a register that is none", 0, 2, 0xa501, 0);
        unitIs("to a register that is none", 0, 2, 0x2a01, 0);
        unitIs("an array for an index", 0, 6, 0x0606, 0);
        unitIs("an int for an array", 0, 6, 0x0705, 0);
        unitIs("an array in a sum", 0, 7, 0x35b0, 0);
        unitIs("an array returned as an int", 0, 8, 0x030f, 0);
        unitIs("an array returned", 0, 8, 0x0311, 0);
        unitIs("nothing returned", 0, 8, 0x000e, 0);
        unitIs("an opcode that is none", 0, 8, 0x00ff, 0);
        unitIs("what goes on behind the code", 0, 8, 0x0000, 0);
        unitIs("longer than the code", 0, 8, 0x0013, 0);
        int place = mill.method(0, 9);
        brokenIs("REGISTERS too few", place - 16, 9, 0);
        brokenIs("arguments too few", place - 14, 1, 0);
        // 0 may be an int and null; another number is no array.
        take(FileMaker.one("()[I", 1, 0, "01 b0"));
        unitIs("null", 0, 0, 0x0212, 1);
        unitIs("a number for an array", 0, 0, 0x1212, 0);
    }

    private static void jumps() throws Exception {
        take(new FileMaker().method("f", "(I)I", 2, 2, "03 3c 1a 1b a00007 00 a7fff8 1a ac").file());
        int units = mill.method(0, 7);
        for (int i = 0; i < units; i++) {
            int unit = mill.unit(0, i);
            if ((unit & 0xff) == 0x33) {
                unitIs("a question of two ints", 0, i, unit, 1);
                unitIs("of what is none", 0, i, 0x0033, 0);
                unitIs("a distance before the code", 0, i + 1, -100, 0);
                unitIs("a distance behind the code", 0, i + 1, units - i, 0);
            }
        }
        take(FileMaker.one("(I)V", 1, 1, "00 1a 57 a7fffd"));
        unitIs("a GOTO", 0, 2, 0xff28, 1);
        unitIs("a GOTO before the code", 0, 2, 0xfd28, 0);
        unitIs("a GOTO behind the code", 0, 2, 0x0128, 0);
    }

    private static void switches() throws Exception {
        take(FileMaker.one("(I)V", 1, 1, "1a ab0000 00000013 00000001 00000007 00000013 b1"));
        // 4201 2301 032c 0006 0000 0128 000e 0000 0200 0001 0007 0000 0004 0000
        unitIs("as it is", 0, 3, 6, 1);
        unitIs("an odd place", 0, 3, 5, 0);
        unitIs("no table there", 0, 3, 8, 0);
        unitIs("of a register that has nothing", 0, 2, 0x002c, 0);
        unitIs("a distance behind the code", 0, 12, 100, 0);
        unitIs("too many cases", 0, 9, 61, 0);
    }

    private static void calls() throws Exception {
        FileMaker maker = new FileMaker();
        int call = maker.own("g", "(I[I)I");
        take(maker.method("f", "()I", 2, 0, String.format("03 01 b800%02x ac", call)).method("g", "(I[I)I", 1, 2, "1a ac").file());
        // 0212 0312 0277 0001 0002 020a 020f
        unitIs("as it is", 0, 2, 0x0277, 1);
        unitIs("too few passed", 0, 2, 0x0177, 0);
        unitIs("no such METHOD", 0, 3, 2, 0);
        unitIs("another METHOD", 0, 3, 0, 0);
        unitIs("other registers", 0, 4, 3, 0);
        unitIs("an array for an int", 0, 5, 0x020c, 0);
        unitIs("an int for an array", 0, 1, 0x1312, 0);
        brokenIs("most registers of a 77", mill.method(0, 9) - 12, 1, 0);
        // 0a without a 77 before it.
        unitIs("no 77", 0, 2, 0x0213, 0);
    }

    private static void orders() throws Exception {
        take(new FileMaker().method("a", "()V", 0, 0, "b1").method("b", "()V", 0, 0, "b1").file());
        ByteBuffer all = ByteBuffer.wrap(bytes).order(ByteOrder.LITTLE_ENDIAN);
        int strings = all.getInt(60);
        int types = all.getInt(68);
        int methods = all.getInt(92);
        brokenIs("STRINGS that do not rise", strings, all.getShort(strings + 4), 0);
        brokenIs("TYPES that do not rise", types, all.getShort(types + 4), 0);
        brokenIs("METHODS that do not rise", methods + 4, all.getShort(methods + 12), 0);
        int map = all.getInt(52);
        brokenIs("lines of the MAP", map, all.getShort(map) + 1, 0);
        for (int i = 1; i < all.getInt(map); i++) {
            brokenIs("a place in the MAP", map + 4 + 12 * i + 8, 0, 0);
        }
    }
}
