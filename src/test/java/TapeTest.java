/** Promises 1 to 5: a new object, the tape, and what a load leaves. */
public final class TapeTest {
    public static void main(String[] args) {
        newObject();
        feedAndEnd();
        tapeIsBounded();
        loadLeaves();
        Due.close();
    }

    private static void newObject() {
        RegisterMill mill = new RegisterMill();
        Due.is("NONE", RegisterMill.NONE, -1);
        Due.is("new place()", mill.place(), -1);
        Due.is("new size()", mill.size(), 0);
        Due.is("new out(0)", mill.out(0), -1);
        Due.is("new method(0, 0)", mill.method(0, 0), -1);
        Due.is("new state(0, 0, 0)", mill.state(0, 0, 0), -1);
        Due.is("new unit(0, 0)", mill.unit(0, 0), -1);
        Due.is("new length(1)", mill.length(1), -1);
        Due.is("new length(0)", mill.length(0), -1);
        Due.is("new run", mill.run(0, 0, 10), -8);
        Due.is("new run", mill.run(1, 0, 10), -8);
        for (int what = 0; what <= 4; what++) {
            Due.is("new told(" + what + ")", mill.told(what), 0);
        }
        Due.is("new told(5)", mill.told(5), -1);
        Due.is("new told(-1)", mill.told(-1), -1);
        Due.is("new clear()", mill.clear(), 0);
        Due.is("new check()", mill.check(), 1);
        Due.is("new end(0)", mill.end(0), -1);
        // All arguments are 0: an int's and an array's.
        mill = Mills.with(FileMaker.one("(IIIIIII[I)I", 2, 8, "1a 06 60 ac"));
        Due.is("run", mill.run(0, 0, 10), 1);
        Due.is("told(0)", mill.told(0), 3);
    }

    private static void feedAndEnd() {
        RegisterMill mill = new RegisterMill();
        Due.is("feed", mill.feed(1, 2, 3, 4, 5), 20);
        Due.is("end(21)", mill.end(21), -1);
        Due.is("end(-1)", mill.end(-1), -1);
        Due.is("end(20)", mill.end(20), 20);
        Due.is("end(3)", mill.end(3), 3);
        Due.is("end(3) of 3", mill.end(3), -1);
        Due.is("feed", mill.feed(1, 2, 3, 4, 5), 23);
        Due.is("end(1)", mill.end(1), 4);
        Due.is("feed", mill.feed(1, 2, 3, 4, 5), 24);
        Due.is("end(0)", mill.end(0), 4);
        Due.is("end(MIN)", mill.end(Integer.MIN_VALUE), -1);
        Due.is("end(MAX)", mill.end(Integer.MAX_VALUE), -1);
        // An end() cuts the last 20 bytes, whichever feeds they came by.
        byte[] file = FileMaker.one("()I", 1, 0, "08 ac");
        RegisterMill cut = new RegisterMill();
        Mills.feed(cut, file);
        int has = cut.feed(-1, -1, -1, -1, -1);
        Due.is("has", has, file.length + 20);
        Due.is("end(0)", cut.end(0), file.length);
        Due.is("load()", cut.load(), 1);
    }

    private static void tapeIsBounded() {
        RegisterMill mill = new RegisterMill();
        for (int i = 1; i <= 600; i++) {
            Due.is("feed " + i, mill.feed(i, i, i, i, i), 20 * i);
        }
        Due.is("feed above 12000", mill.feed(1, 1, 1, 1, 1), -1);
        Due.is("end(19)", mill.end(19), 11999);
        Due.is("feed above 12000", mill.feed(1, 1, 1, 1, 1), -1);
        Due.is("end(1)", mill.end(1), 11980);
        Due.is("feed to 12000", mill.feed(1, 1, 1, 1, 1), 12000);
        Due.is("load()", mill.load(), -1);
        Due.is("place()", mill.place(), 0);
    }

    private static void loadLeaves() {
        byte[] file = FileMaker.one("(I)I", 2, 1, "1a 08 60 ac");
        RegisterMill mill = Mills.with(file);
        Due.is("place()", mill.place(), -1);
        mill.arg(0, 37);
        mill.make(4);
        Due.is("run", mill.run(1, 0, 100), 1);
        Due.is("told(0)", mill.told(0), 42);
        int steps = mill.told(1);
        int size = mill.size();
        Due.is("load() of nothing", mill.load(), -1);
        Due.is("place() of nothing", mill.place(), 0);
        // The tape is empty behind a FAULT, too; all else is as it was.
        Due.is("feed", mill.feed(0xcafebabe, 0, 0, 0, 0), 20);
        Due.is("load()", mill.load(), -1);
        Due.is("place()", mill.place(), 6);
        Due.is("feed", mill.feed(1, 2, 3, 4, 5), 20);
        Due.is("end(0)", mill.end(0), 0);
        Due.is("size()", mill.size(), size);
        Due.is("method(0, 0)", mill.method(0, 0), 1);
        Due.is("told(0)", mill.told(0), 42);
        Due.is("told(1)", mill.told(1), steps);
        Due.is("told(2)", mill.told(2), 1);
        Due.is("length(1)", mill.length(1), 4);
        Due.is("run", mill.run(0, 0, 100), 1);
        Due.is("told(0)", mill.told(0), 42);
        // Another file takes the place of the first one; arrays, arguments and told() stay.
        byte[] other = new FileMaker().method("g", "(I)I", 2, 1, "1a 1a 68 ac").method("a", "()V", 0, 0, "b1").file();
        Due.is("load()", Mills.load(mill, other), 2);
        Due.is("place()", mill.place(), -1);
        Due.is("told(0)", mill.told(0), 42);
        Due.is("length(1)", mill.length(1), 4);
        Due.is("run", mill.run(1, 0, 100), 1);
        Due.is("told(0)", mill.told(0), 37 * 37);
        Due.is("method(0, 5)", mill.method(0, 5), 1);
        Due.is("load()", Mills.load(mill, file), 1);
        Due.is("size()", mill.size(), size);
        Due.is("method(1, 0)", mill.method(1, 0), -1);
        Due.is("check()", mill.check(), 1);
    }
}
