import java.util.ArrayList;
import java.util.List;

/**
 * Promise 4 in objects that are used again: nothing of a file that was loaded or refused before is seen in the next
 * one, whatever the first left behind; each object within its 512 calls.
 */
public final class ReloadTest {
    private static final String THIRTY = "abcdefghijabcdefghij0123456789";
    private static final String FORTY = "abcdefghij/bcdefghij/bcdefghij/bcdefghij";

    public static void main(String[] args) {
        statesThatWait();
        localsThatWere();
        stackThatWas();
        shorterCode();
        fewerMethods();
        callsThatWere();
        manyNames();
        eachBehindEach();
        Due.close();
    }

    private static void behindIs(String first, int firstAnswer, String descriptor, String second, int answer, int pc) {
        RegisterMill mill = new RegisterMill();
        Due.is(first, Mills.load(mill, FileMaker.one(descriptor, 4, 4, first)), firstAnswer);
        FileMaker maker = new FileMaker().method("f", descriptor, 4, 4, second);
        Due.is(second + " behind " + first, Mills.load(mill, maker.file()), answer);
        Due.is("place()", mill.place(), answer > 0 ? -1 : maker.codePlace(0) + pc);
        if (answer > 0) {
            same(second + " behind " + first, mill, Mills.with(maker.file()));
        }
    }

    /** All that two objects tell of one file. */
    private static void same(String what, RegisterMill mill, RegisterMill due) {
        Due.is(what + ": size()", mill.size(), due.size());
        for (int i = 8; i < 32; i++) {
            Due.is(what + ": out(" + i + ")", mill.out(i), due.out(i));
        }
        for (int m = 0; m < 3; m++) {
            for (int field = 0; field < 10; field++) {
                Due.is(what + ": method(" + m + ", " + field + ")", mill.method(m, field), due.method(m, field));
            }
        }
        for (int pc = 0; pc < 30; pc++) {
            Due.is(what + ": state(0, " + pc + ", 0)", mill.state(0, pc, 0), due.state(0, pc, 0));
            Due.is(what + ": state(0, " + pc + ", 1)", mill.state(0, pc, 1), due.state(0, pc, 1));
            Due.is(what + ": state(0, " + pc + ", 2)", mill.state(0, pc, 2), due.state(0, pc, 2));
            Due.is(what + ": state(0, " + pc + ", 12)", mill.state(0, pc, 12), due.state(0, pc, 12));
        }
        Due.is(what + ": check()", mill.check(), due.check());
    }

    private static void statesThatWait() {
        // A FAULT at 4 while 13 waits to be looked at; in the next code nothing reaches 13, or it needs what is not there.
        String first = "1a 99000c 57 00 00 00 00 00 00 00 00 b1";
        behindIs(first, -3, "(I)V", "b1 00 00 00 00 00 00 00 00 00 00 00 00 57 b1", 1, 0);
        behindIs(first, -3, "(I)V", "00 00 00 00 00 00 00 00 00 00 00 00 00 57 b1", -3, 13);
        behindIs(first, -3, "(I)V", "00 00 00 00 00 00 00 00 00 00 00 00 03 57 b1", 1, 0);
        behindIs(first, -3, "(I)V", "1a 57 b1", 1, 0);
    }

    private static void localsThatWere() {
        // LOCAL 2 was an array, or an int, when the FAULT came; it is none at the next beginning.
        behindIs("01 4d 57 b1", -3, "()V", "2c 57 b1", -3, 0);
        behindIs("03 3d 57 b1", -3, "()V", "1c 57 b1", -3, 0);
        behindIs("01 4d b1", 1, "()V", "2c 57 b1", -3, 0);
        behindIs("03 3d b1", 1, "()V", "1c 57 b1", -3, 0);
        behindIs("01 4d 57 b1", -3, "()V", "b1", 1, 0);
        behindIs("03 3d 57 b1", -3, "()V", "b1", 1, 0);
        // An argument of the other kind.
        behindIs("01 4b 57 b1", -3, "(I)V", "1a 57 b1", 1, 0);
        behindIs("01 4b 57 b1", -3, "(I)V", "2a 57 b1", -3, 0);
    }

    private static void stackThatWas() {
        behindIs("01 03 01 ac", -3, "()V", "57 b1", -3, 0);
        behindIs("01 03 01 ac", -3, "()V", "b1", 1, 0);
        behindIs("01 01 01 ac", -3, "()V", "03 03 60 57 b1", 1, 0);
        behindIs("03 03 03 ac", -3, "()V", "01 01 a50003 b1", 1, 0);
    }

    private static void shorterCode() {
        // What begins where an instruction began before does not begin now.
        behindIs("00 00 00 b1", 1, "()V", "1100 00 b1", 1, 0);
        behindIs("00 00 00 b1", 1, "()V", "a70001 b1", -2, 0);
        behindIs("00 00 00 00 00 00 b1", 1, "()V", "a70004 b1", -2, 0);
        behindIs("00 00 00 00 00 00 b1", 1, "()V", "00 b1", 1, 0);
        behindIs("00 00 00 ff", -2, "()V", "110000 57 b1", 1, 0);
        behindIs("00 00 00 ff", -2, "()V", "a70001 b1", -2, 0);
        behindIs("00 00 00 00 ff", -2, "()V", "a70004 b1", -2, 0);
        // The third one behind two that were right.
        RegisterMill mill = Mills.with(FileMaker.one("()V", 1, 0, "00 00 00 00 b1"));
        Due.is("the second", Mills.load(mill, FileMaker.one("()V", 1, 0, "00 00 00 00 b1")), 1);
        Due.is("the third", Mills.load(mill, FileMaker.one("()V", 1, 0, "a70001 b1")), -2);
        Due.is("the fourth", Mills.load(mill, FileMaker.one("()V", 1, 0, "110000 57 b1")), 1);
        Due.is("no instruction", mill.state(0, 1, 1), -1);
        Due.is("an instruction", mill.state(0, 3, 1), 0x57);
    }

    private static void fewerMethods() {
        FileMaker eight = new FileMaker();
        for (int m = 0; m < 8; m++) {
            eight.method("f" + m, m % 2 == 0 ? "(I)V" : "()V", 0, 1, "b1");
        }
        RegisterMill mill = Mills.with(eight.file());
        FileMaker one = new FileMaker().method("f7", "()V", 0, 0, "b1");
        Due.is("load()", Mills.load(mill, one.file()), 1);
        for (int m = 1; m < 9; m++) {
            Due.is("method(" + m + ", 0)", mill.method(m, 0), -1);
            Due.is("run(0, " + m + ", 10)", mill.run(0, m, 10), -8);
            Due.is("run(1, " + m + ", 10)", mill.run(1, m, 10), -8);
        }
        same("one METHOD behind eight", mill, Mills.with(one.file()));
        // The same METHOD as in the file before is no second one; and one that only that file had cannot be called.
        FileMaker two = new FileMaker();
        int call = two.own("f3", "()V");
        two.method("f7", "()V", 0, 0, String.format("b1 b800%02x", call));
        Due.is("load()", Mills.load(mill, two.file()), -2);
        Due.is("load()", Mills.load(mill, one.file()), 1);
    }

    private static void callsThatWere() {
        // The most registers of a 77, and new arrays, are the new file's own.
        FileMaker first = new FileMaker();
        int call = first.own("g", "(IIIIIIII)V");
        first.method("f", "()V", 8, 0, "03".repeat(8) + String.format("b800%02x 03 bc0a 57 b1", call)).method("g", "(IIIIIIII)V", 0, 8, "b1");
        FileMaker second = new FileMaker().method("f", "()V", 8, 0, "b1").method("g", "()V", 0, 8, "b1");
        RegisterMill mill = Mills.with(first.file());
        Due.is("load()", Mills.load(mill, second.file()), 2);
        Due.is("most registers", mill.out(mill.method(0, 9) - 12), 0);
        same("without calls", mill, Mills.with(second.file()));
        Due.is("load()", Mills.load(mill, first.file()), 2);
        Due.is("most registers", mill.out(mill.method(0, 9) - 12), 8);
        same("with calls", mill, Mills.with(first.file()));
        // Long GOTOS before short ones.
        String far = "1a 990006" + String.format("a7%04x", 3 + 2 * 130) + "0357".repeat(130) + "b1";
        String near = "1a 990006 a70005 0357 b1";
        behindIs(far, 1, "(I)V", near, 1, 0);
        behindIs(near, 1, "(I)V", far, 1, 0);
        behindIs("1a 990006 a70000 b1", 1, "(I)V", near, 1, 0);
    }

    /** As many bytes of names as a file can have, again and again. */
    private static void manyNames() {
        List<FileMaker> files = new ArrayList<>();
        for (int k = 0; k < 3; k++) {
            FileMaker maker = new FileMaker(FORTY, FORTY.replace('j', (char) ('k' + k)));
            String[] descriptors = {"(IIIIIIII)V", "([I)V", "()V", "(II)V", "(I[II[II[II[I)V", "(I)V", "([I[I)V", "(III)V"};
            for (int m = 0; m < 8; m++) {
                maker.method(THIRTY.substring(0, 28) + k + m, descriptors[(m + 3 * k) % 8], 0, 8, "b1");
            }
            files.add(maker);
        }
        RegisterMill mill = new RegisterMill();
        int calls = 0;
        for (int round = 0; round < 8; round++) {
            byte[] file = files.get(round % 3).file();
            Due.is("load() " + round, Mills.load(mill, file), 8);
            RegisterMill due = Mills.with(file);
            Due.is("size() " + round, mill.size(), due.size());
            for (int i = 8; i < 20; i++) {
                Due.is("out(" + i + ") " + round, mill.out(i), due.out(i));
            }
            Due.is("check() " + round, mill.check(), 1);
            calls += file.length / 20 + 17;
        }
        Due.that("within 512 calls: " + calls, calls <= 512);
    }

    private static void eachBehindEach() {
        List<byte[]> files = new ArrayList<>();
        files.add(Picture.FILE);
        files.add(FileMaker.one("()V", 0, 0, "b1"));
        files.add(FileMaker.one("()V", 0, 0, "ff"));
        files.add(FileMaker.one("()V", 0, 0, "57 b1"));
        files.add(new byte[0]);
        files.add(new byte[] {1, 2, 3});
        files.add(new FileMaker("B", "A").method("z", "([I)[I", 3, 3, "2a b0").method("a", "([I)V", 3, 3, "b1").method("z", "()I", 3, 3, "03 ac").file());
        files.add(new FileMaker().method("f", "(I)I", 3, 30, "1a aa0000 00000013 00000000 00000000 00000013 08 ac").file());
        files.add(new FileMaker().method("f", "()I", 3, 3, "03 bc0a 03 2e ac").method("e", "()V", 0, 0, "b1").file());
        for (byte[] first : files) {
            for (byte[] second : files) {
                RegisterMill mill = new RegisterMill();
                int before = Mills.load(mill, first);
                RegisterMill due = new RegisterMill();
                int answer = Mills.load(due, second);
                Due.is("load()", Mills.load(mill, second), answer);
                Due.is("place()", mill.place(), due.place());
                if (answer > 0) {
                    same("each behind each", mill, due);
                } else if (before > 0) {
                    same("each refused behind each", mill, Mills.with(first));
                }
            }
        }
    }
}
