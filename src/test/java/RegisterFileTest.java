import java.util.Arrays;

/** Promises 6, 9, 10 and 19, section 4: the REGISTER FILE, byte by byte. */
public final class RegisterFileTest {
    public static void main(String[] args) throws Exception {
        golden();
        for (int seed = 0; seed < 2500; seed++) {
            ProgramMaker program = new ProgramMaker(seed + 500000);
            ReferenceFile.compare("program " + seed, program.file(), "T", "java/lang/Object");
        }
        names();
        large();
        Due.close();
    }

    /** A whole file that a stranger's reader of such files (dexdump) has taken, with both of its sums. */
    private static void golden() {
        RegisterMill mill = Mills.with(FileMaker.one("()V", 0, 0, "b1"));
        String due = "6465780a30333500 5b2611e9 39db5d85171d62d214691f627d2525ef9b041e04"
            + "78010000 70000000 78563412 00000000 00000000 fc000000"
            + "04000000 70000000 03000000 80000000 01000000 8c000000 00000000 00000000 01000000 98000000 01000000 a0000000"
            + "b8000000 c0000000"
            + "d2000000 d7000000 eb000000 ee000000" + "00000000 01000000 02000000" + "02000000 02000000 00000000"
            + "0000 0000 03000000" + "00000000 01000000 01000000 00000000 ffffffff 00000000 f1000000 00000000"
            + "0200 0000 0000 0000 00000000 01000000 0e00"
            + "03 4c543b 00 12 4c6a6176612f6c616e672f4f626a6563743b 00 01 56 00 01 66 00"
            + "00 00 01 00 00 09 c001 0000 00"
            + "0a000000" + "0000 0000 01000000 00000000" + "0100 0000 04000000 70000000" + "0200 0000 03000000 80000000"
            + "0300 0000 01000000 8c000000" + "0500 0000 01000000 98000000" + "0600 0000 01000000 a0000000"
            + "0120 0000 01000000 c0000000" + "0220 0000 04000000 d2000000" + "0020 0000 01000000 f1000000"
            + "0010 0000 01000000 fc000000";
        Due.is("first other byte", Arrays.mismatch(Mills.out(mill), Bytes.of(due)), -1);
        Due.is("size()", mill.size(), 376);
        Due.is("out(-1)", mill.out(-1), -1);
        Due.is("out(size)", mill.out(mill.size()), -1);
        Due.is("out(MAX)", mill.out(Integer.MAX_VALUE), -1);
        Due.is("out(MIN)", mill.out(Integer.MIN_VALUE), -1);
    }

    private static void names() throws Exception {
        // Names that are STRINGS for other reasons, too, or begin one another.
        FileMaker maker = new FileMaker("I", "V");
        maker.method("I", "()V", 1, 0, "b1").method("V", "()V", 0, 0, "b1").method("VI", "(I)V", 1, 1, "b1").method("VIL", "(I[I)V", 0, 2, "b1");
        maker.method("L", "()[I", 1, 0, "01 b0").method("a", "()V", 0, 0, "b1").method("A", "()V", 0, 0, "b1").method("_", "()I", 1, 0, "03 ac");
        ReferenceFile.compareRight("names", maker.file(), "I", "V");
        // A METHOD's name I needs no TYPE I.
        maker = new FileMaker("Z", "a/b").method("I", "()V", 0, 0, "b1");
        ReferenceFile.compareRight("name I", maker.file(), "Z", "a/b");
        // The same name with PROTOS in their order: by what they return, then by their arguments.
        maker = new FileMaker("a0", "a");
        String[] descriptors = {"([I)V", "(I)V", "()V", "(II)V", "([I)I", "()[I", "(I[I)I", "(I)I"};
        for (String one : descriptors) {
            maker.method("f", one, 1, 3, one.endsWith("V") ? "b1" : one.endsWith("[I") ? "01 b0" : "03 ac");
        }
        ReferenceFile.compareRight("protos", maker.file(), "a0", "a");
        String forty = "abcdefghij/bcdefghij/bcdefghij/bcdefghij";
        maker = new FileMaker(forty, "_" + forty.substring(1));
        maker.method("abcdefghijabcdefghij0123456789", "(IIIIIIII)V", 0, 8, "b1").method("abcdefghijabcdefghij012345678", "(IIIIIIII)I", 1, 8, "03 ac");
        ReferenceFile.compareRight("long names", maker.file(), forty, "_" + forty.substring(1));
    }

    private static void large() throws Exception {
        // As many units as can be: 8 METHODS of swaps in high registers.
        FileMaker maker = new FileMaker();
        for (int m = 0; m < 8; m++) {
            maker.method("f" + m, "(IIIIIIII)V", 40, 40, "03 01" + "5f".repeat(297) + "b1");
        }
        byte[] file = maker.file();
        ReferenceFile.compareRight("large", file, "T", "java/lang/Object");
        RegisterMill mill = Mills.with(file);
        Due.is("units", mill.method(7, 7), 16 + 4 + 6 * 297 + 1);
        Due.is("REGISTERS", mill.method(7, 6), 90);
        Due.is("run", mill.run(1, 7, 100000), 0);
        Due.is("STEPS", mill.told(1), 8 + 2 + 3 * 297 + 1);
        Due.is("run", mill.run(0, 7, 100000), 0);
        Due.is("STEPS", mill.told(1), 300);
        // And as many cases.
        StringBuilder code = new StringBuilder("1a aa 0000 ffffffff 00000000 0000003b");
        for (int i = 0; i < 60; i++) {
            code.append(" ffffffff");
        }
        file = FileMaker.one("(I)V", 1, 1, code.toString());
        ReferenceFile.compareRight("60 cases", file, "T", "java/lang/Object");
        mill = Mills.with(file);
        Due.is("units", mill.method(0, 7), 1 + 1 + 4 + 4 + 120);
    }
}
