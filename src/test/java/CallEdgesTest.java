import java.util.ArrayList;
import java.util.List;
import java.util.function.ToLongFunction;

/**
 * Promises 1 to 19, call by call: the last argument that is let through, the first that is not, and that a call that
 * is refused leaves all as it was.
 */
public final class CallEdgesTest {
    private static final int MIN = Integer.MIN_VALUE;
    private static final int MAX = Integer.MAX_VALUE;
    private static final long NO_INT = 1099511627776L;

    private static final class Refused {
        final String call;
        final long due;
        final ToLongFunction<RegisterMill> how;

        Refused(String call, long due, ToLongFunction<RegisterMill> how) {
            this.call = call;
            this.due = due;
            this.how = how;
        }
    }

    private static final List<Refused> ALL = new ArrayList<>();

    public static void main(String[] args) {
        newObject();
        feedEdges();
        endEdges();
        endWithFew();
        loadEmptiesTheTape();
        loadWithFault();
        loadWithoutFault();
        placeOfTheLatest();
        methodEdges();
        stateEdges();
        unitEdges();
        lengthGetPut();
        argEdges();
        toldEdges();
        clearEdges();
        checks();
        arrayArguments();
        collect();
        for (Refused one : ALL) {
            leavesAll(one);
        }
        Due.close();
    }

    private static void newObject() {
        RegisterMill mill = new RegisterMill();
        Due.is("NONE", RegisterMill.NONE, -1);
        Due.is("place()", mill.place(), -1);
        Due.is("size()", mill.size(), 0);
        for (int i : new int[] {-1, 0, 1}) {
            Due.is("out(" + i + ")", mill.out(i), -1);
            Due.is("unit(0, " + i + ")", mill.unit(0, i), -1);
            Due.is("length(" + i + ")", mill.length(i), -1);
            Due.is("get(" + i + ", 0)", mill.get(i, 0), NO_INT);
            Due.is("put(" + i + ", 0, 1)", mill.put(i, 0, 1), -1);
            Due.is("run(" + i + ", 0, 1)", mill.run(i, 0, 1), -8);
            for (int what = -1; what <= 12; what++) {
                Due.is("method(" + i + ", " + what + ")", mill.method(i, what), -1);
                Due.is("state(" + i + ", 0, " + what + ")", mill.state(i, 0, what), -1);
            }
        }
        for (int what = 0; what <= 4; what++) {
            Due.is("told(" + what + ")", mill.told(what), 0);
        }
        Due.is("end(0)", mill.end(0), -1);
        Due.is("check()", mill.check(), 1);
        Due.is("clear()", mill.clear(), 0);
        Due.is("load() of an empty tape", mill.load(), -1);
        Due.is("place()", mill.place(), 0);
        // All arguments are 0: each of eight, and null.
        mill = Mills.with(Picture.FILE);
        Due.is("run", mill.run(0, 0, 1000), 1);
        Due.is("told(0)", mill.told(0), 0);
        Due.is("run with null", mill.run(0, 1, 1000), -3);
        // Another object is another one.
        RegisterMill other = new RegisterMill();
        Due.is("size()", other.size(), 0);
        mill.make(5);
        Due.is("length(1)", other.length(1), -1);
    }

    private static void feedEdges() {
        // 512 calls feed 10240 bytes at the most; so the bound of 12000 stands behind them, and is looked at all the same.
        RegisterMill mill = new RegisterMill();
        for (int i = 1; i <= 599; i++) {
            Due.is("feed", mill.feed(i, i, i, i, i), 20 * i);
        }
        Due.is("end(19)", mill.end(19), 11979);
        Due.is("feed to 11999", mill.feed(1, 1, 1, 1, 1), 11999);
        Due.is("feed above", mill.feed(1, 1, 1, 1, 1), -1);
        Due.is("end(20): none came", mill.end(20), 11999);
        Due.is("end(2)", mill.end(2), 11981);
        Due.is("feed above by 1", mill.feed(1, 1, 1, 1, 1), -1);
        Due.is("end(19)", mill.end(19), 11980);
        Due.is("feed to 12000", mill.feed(1, 1, 1, 1, 1), 12000);
        Due.is("feed above by 20", mill.feed(1, 1, 1, 1, 1), -1);
        Due.is("end(20): none came", mill.end(20), 12000);
        Due.is("end(0)", mill.end(0), 11980);
        Due.is("feed to 12000 again", mill.feed(1, 1, 1, 1, 1), 12000);
        Due.is("load()", mill.load(), -1);
        Due.is("feed on an empty tape", mill.feed(1, 1, 1, 1, 1), 20);
        // The highest byte first, with and without a sign: a FAULT tells which byte stands where.
        for (int i = 0; i < 4; i++) {
            int wrong = 0xcafebabe ^ 1 << 8 * i;
            mill = new RegisterMill();
            mill.feed(wrong, 0, 0, 0, 0);
            mill.load();
            Due.is("a wrong magic number", mill.place(), 0);
        }
        mill = new RegisterMill();
        mill.feed(0xcafebabe, 0x00000031, 0x00000000, 0, 0);
        mill.load();
        Due.is("no CONSTANTS", mill.place(), 8);
        mill.feed(0xcafebabe, 0x00000031, 0x000201ff, 0xff000000, 0);
        mill.load();
        Due.is("a TEXT of 65535 bytes", mill.place(), 20);
        mill.feed(0xcafebabe, 0x00000031, 0x00020100, 0x02418000, 0);
        mill.load();
        Due.is("a byte 80", mill.place(), 14);
        mill.feed(0xcafebabe, 0x00000031, 0x00020100, 0x05414141, 0x41ff0000);
        mill.load();
        Due.is("a byte ff, by the fifth number", mill.place(), 17);
    }

    private static void endEdges() {
        for (int n = -3; n <= 23; n++) {
            RegisterMill mill = new RegisterMill();
            mill.feed(1, 2, 3, 4, 5);
            mill.feed(6, 7, 8, 9, 10);
            boolean right = n >= 0 && n <= 20;
            Due.is("end(" + n + ") of 40", mill.end(n), right ? 20 + n : -1);
            Due.is("feed", mill.feed(1, 1, 1, 1, 1), right ? 40 + n : 60);
        }
        for (int n : new int[] {MIN, MAX, -20, 40}) {
            RegisterMill mill = new RegisterMill();
            mill.feed(1, 2, 3, 4, 5);
            Due.is("end(" + n + ")", mill.end(n), -1);
        }
        // The first n of them stay, and no others.
        byte[] file = FileMaker.one("()I", 1, 0, "08 ac");
        for (int more = 0; more <= 20; more++) {
            byte[] longer = java.util.Arrays.copyOf(file, file.length + more);
            RegisterMill mill = new RegisterMill();
            Mills.feed(mill, longer);
            Due.is("end(" + (20 - more) + ")", mill.end(20 - more), file.length);
            Due.is("load()", mill.load(), 1);
        }
    }

    private static void endWithFew() {
        for (int has = 0; has <= 20; has++) {
            RegisterMill mill = new RegisterMill();
            mill.feed(0xcafebabe, 0x31, 0x20100, 0x05414141, 0x41ff0000);
            mill.end(has);
            Due.is("end(7) of " + has, mill.end(7), has == 20 ? 7 : -1);
            Due.is("end(0) of " + (has == 20 ? 7 : has), mill.end(0), -1);
            Due.is("end(20) of " + (has == 20 ? 7 : has), mill.end(20), -1);
            Due.is("feed", mill.feed(1, 2, 3, 4, 5), (has == 20 ? 7 : has) + 20);
            Due.is("end(20) of 20 and more", mill.end(20), (has == 20 ? 7 : has) + 20);
        }
    }

    private static void loadEmptiesTheTape() {
        String[] codes = {"b1", "ff", "57 b1"};
        for (int kind = 0; kind < 4; kind++) {
            byte[] file = kind == 1 ? new byte[] {1, 2, 3, 4, 5} : FileMaker.one("()V", 0, 0, codes[kind == 0 ? 0 : kind - 1]);
            RegisterMill mill = new RegisterMill();
            Due.is("load() with FAULT " + kind, Mills.load(mill, file), kind == 0 ? 1 : -kind);
            Due.is("end(0) of an empty tape", mill.end(0), -1);
            Due.is("feed", mill.feed(1, 2, 3, 4, 5), 20);
            Due.is("load()", mill.load(), -1);
            Due.is("load() again", mill.load(), -1);
            Due.is("place()", mill.place(), 0);
        }
        // Twice the same file, one load each.
        byte[] file = FileMaker.one("()V", 0, 0, "b1");
        RegisterMill mill = new RegisterMill();
        Due.is("load()", Mills.load(mill, file), 1);
        Due.is("load()", Mills.load(mill, file), 1);
        Due.is("load() of nothing", mill.load(), -1);
        Due.is("the file stays", mill.method(0, 4), 1);
    }

    private static void loadWithFault() {
        String[] codes = {"ff", "57 b1"};
        for (int kind = 1; kind <= 3; kind++) {
            byte[] file = kind == 1 ? new byte[] {1, 2, 3, 4, 5} : new FileMaker("Other", "Above").method("x", "(I)I", 7, 7, "03 ac")
                .method("y", "()V", 5, 5, codes[kind - 2]).file();
            RegisterMill mill = Picture.prepared();
            mill.load();
            Due.is("load() with FAULT " + kind, Mills.load(mill, file), -kind);
            RegisterMill twin = Picture.prepared();
            Picture.same("behind FAULT " + kind, Picture.ofAllButTape(mill), Picture.ofAllButTape(twin));
        }
        // Also where nothing was loaded before.
        for (int kind = 2; kind <= 3; kind++) {
            RegisterMill mill = new RegisterMill();
            Due.is("load()", Mills.load(mill, FileMaker.one("()V", 0, 0, codes[kind - 2])), -kind);
            Due.is("size()", mill.size(), 0);
            Due.is("method(0, 0)", mill.method(0, 0), -1);
            Due.is("state(0, 0, 1)", mill.state(0, 0, 1), -1);
            Due.is("unit(0, 0)", mill.unit(0, 0), -1);
            Due.is("run", mill.run(0, 0, 10), -8);
            Due.is("check()", mill.check(), 1);
        }
    }

    private static void loadWithoutFault() {
        RegisterMill mill = Picture.prepared();
        mill.load();
        Due.is("load()", Mills.load(mill, FileMaker.one("(II)I", 2, 2, "1a 1b 64 ac")), 1);
        Picture.same("arrays, arguments, told", Picture.ofRuns(mill), Picture.ofRuns(Picture.prepared()));
        Due.is("arguments stay", mill.run(0, 0, 10), 1);
        Due.is("told(0)", mill.told(0), 1 - 8);
        Due.is("the others are gone", mill.method(1, 0), -1);
        Due.is("the others are gone", mill.method(2, 0), -1);
        Due.is("the others are gone", mill.state(1, 0, 1), -1);
        Due.is("the others are gone", mill.unit(1, 0), -1);
        Due.is("the others are gone", mill.run(0, 1, 10), -8);
        // The register code is the new file's.
        Due.is("run", mill.run(1, 0, 10), 1);
        Due.is("told(0)", mill.told(0), 1 - 8);
        Due.is("told(1)", mill.told(1), 6);
    }

    private static void placeOfTheLatest() {
        RegisterMill mill = new RegisterMill();
        byte[] right = FileMaker.one("()V", 0, 0, "b1");
        Due.is("before any", mill.place(), -1);
        Mills.load(mill, new byte[] {1, 2, 3});
        Due.is("with a FAULT", mill.place(), 3);
        Mills.load(mill, right);
        Due.is("without one", mill.place(), -1);
        FileMaker maker = new FileMaker().method("f", "()V", 0, 0, "00 ff");
        Mills.load(mill, maker.file());
        Due.is("FAULT 2", mill.place(), maker.codePlace(0) + 1);
        mill.feed(1, 2, 3, 4, 5);
        mill.run(0, 0, 10);
        mill.clear();
        Due.is("till the next load()", mill.place(), maker.codePlace(0) + 1);
        mill.end(0);
        mill.load();
        Due.is("of nothing", mill.place(), 0);
    }

    private static void methodEdges() {
        RegisterMill mill = Mills.with(Picture.FILE);
        int[][] due = {{8, 1, 2, 8, 44, 0, 20}, {1, 1, 3, 3, 24, 2, 9}, {1, 2, 1, 1, 4, 1, 5}};
        for (int m = 0; m < 3; m++) {
            for (int what = 0; what < 7; what++) {
                Due.is("method(" + m + ", " + what + ")", mill.method(m, what), due[m][what]);
            }
            for (int what : new int[] {MIN, -10, -1, 10 + due[m][0], 11 + due[m][0], 18, 19, 100, MAX}) {
                Due.is("method(" + m + ", " + what + ")", mill.method(m, what), -1);
            }
        }
        for (int what = 10; what < 18; what++) {
            Due.is("method(0, " + what + ")", mill.method(0, what), 1);
        }
        Due.is("method(1, 10)", mill.method(1, 10), 2);
        Due.is("method(2, 10)", mill.method(2, 10), 1);
        for (int m : new int[] {MIN, -1, 3, 4, 7, 8, MAX}) {
            for (int what = -1; what <= 11; what++) {
                Due.is("method(" + m + ", " + what + ")", mill.method(m, what), -1);
            }
        }
        // Eight METHODS, each asked for.
        FileMaker maker = new FileMaker();
        for (int m = 0; m < 8; m++) {
            maker.method("f" + (7 - m), "()V", m, 40 - m, "00".repeat(m) + "b1");
        }
        mill = Mills.with(maker.file());
        for (int m = 0; m < 8; m++) {
            Due.is("STACK", mill.method(m, 2), m);
            Due.is("LOCALS", mill.method(m, 3), 40 - m);
            Due.is("bytes of code", mill.method(m, 4), m + 1);
            Due.is("number", mill.method(m, 5), 7 - m);
            Due.is("place", mill.method(m, 8), maker.codePlace(m));
        }
        Due.is("method(8, 0)", mill.method(8, 0), -1);
        // Bytes of code, units and REGISTERS at their bounds.
        mill = Mills.with(FileMaker.one("(IIIIIIII)V", 40, 40, "00".repeat(299) + "b1"));
        Due.is("bytes of code", mill.method(0, 4), 300);
        Due.is("REGISTERS", mill.method(0, 6), 90);
        mill = Mills.with(FileMaker.one("()V", 0, 0, "b1"));
        Due.is("bytes of code", mill.method(0, 4), 1);
        Due.is("REGISTERS", mill.method(0, 6), 2);
        Due.is("units", mill.method(0, 7), 1);
    }

    private static void stateEdges() {
        // 0: c4 15 0000, 4: 57, 5: b1, 6: 19 01 that nothing reaches.
        RegisterMill mill = Mills.with(FileMaker.one("(I[I)V", 2, 3, "c4150000 57 b1 1901"));
        int[] opcodes = {0xc4, -1, -1, -1, 0x57, 0xb1, 0x19, -1, -1, -1};
        int[] depths = {0, -1, -1, -1, 1, 0, -1, -1, -1, -1};
        int[] begins = {2, -1, -1, -1, 3, 3, -1, -1, -1, -1};
        for (int pc = 0; pc < opcodes.length; pc++) {
            Due.is("state(0, " + pc + ", 0)", mill.state(0, pc, 0), depths[pc]);
            Due.is("state(0, " + pc + ", 1)", mill.state(0, pc, 1), opcodes[pc]);
            Due.is("state(0, " + pc + ", 2)", mill.state(0, pc, 2), begins[pc]);
            int[] locals = {1, 2, 0};
            for (int i = 0; i < 4; i++) {
                Due.is("state(0, " + pc + ", " + (10 + i) + ")", mill.state(0, pc, 10 + i), depths[pc] >= 0 && i < 3 ? locals[i] : -1);
            }
            Due.is("state(0, " + pc + ", 60)", mill.state(0, pc, 60), depths[pc] == 1 ? 1 : -1);
            Due.is("state(0, " + pc + ", 61)", mill.state(0, pc, 61), -1);
            for (int what : new int[] {MIN, -1, 3, 4, 9, 49, 50, 59, 99, 100, MAX}) {
                Due.is("state(0, " + pc + ", " + what + ")", mill.state(0, pc, what), -1);
            }
        }
        for (int what : new int[] {0, 1, 2, 10}) {
            for (int m : new int[] {MIN, -1, 1, 8, MAX}) {
                Due.is("state(" + m + ", 0, " + what + ")", mill.state(m, 0, what), -1);
            }
            for (int pc : new int[] {MIN, -1, 8, 299, 300, MAX}) {
                Due.is("state(0, " + pc + ", " + what + ")", mill.state(0, pc, what), -1);
            }
        }
        // The last of 300 bytes.
        mill = Mills.with(FileMaker.one("()V", 0, 0, "00".repeat(299) + "b1"));
        Due.is("state(0, 299, 1)", mill.state(0, 299, 1), 0xb1);
        Due.is("state(0, 299, 0)", mill.state(0, 299, 0), 0);
        Due.is("state(0, 300, 1)", mill.state(0, 300, 1), -1);
        // What a longer code left is not there in a shorter one.
        Mills.load(mill, FileMaker.one("()V", 0, 0, "b1"));
        Due.is("state(0, 0, 1)", mill.state(0, 0, 1), 0xb1);
        Due.is("state(0, 1, 1)", mill.state(0, 1, 1), -1);
        Due.is("state(0, 299, 1)", mill.state(0, 299, 1), -1);
    }

    private static void unitEdges() {
        RegisterMill mill = Mills.with(Picture.FILE);
        for (int m = 0; m < 3; m++) {
            int units = mill.method(m, 7);
            Due.that("unit(" + m + ", 0)", mill.unit(m, 0) >= 0);
            Due.that("the last unit", mill.unit(m, units - 1) >= 0);
            for (int i : new int[] {MIN, -1, units, units + 1, MAX}) {
                Due.is("unit(" + m + ", " + i + ")", mill.unit(m, i), -1);
            }
        }
        for (int m : new int[] {MIN, -1, 3, 8, MAX}) {
            Due.is("unit(" + m + ", 0)", mill.unit(m, 0), -1);
        }
        // 0 and 65535 are units like others.
        mill = Mills.with(FileMaker.one("()V", 1, 14, "02 57 03 b1"));
        Due.is("unit ffff", mill.unit(0, 1), 65535);
        Due.is("unit 0000", mill.unit(0, 3), 0);
    }

    private static void lengthGetPut() {
        RegisterMill mill = new RegisterMill();
        mill.make(3);
        mill.make(0);
        int[] lengths = {-1, 3, 0, -1};
        for (int h = 0; h <= 3; h++) {
            Due.is("length(" + h + ")", mill.length(h), lengths[h]);
            for (int i : new int[] {MIN, -1, 0, 1, 2, 3, MAX}) {
                boolean there = i >= 0 && i < lengths[h];
                Due.is("get(" + h + ", " + i + ")", mill.get(h, i), there ? 0 : NO_INT);
                Due.is("put(" + h + ", " + i + ", 9)", mill.put(h, i, 100 * h + i), there ? 1 : -1);
                Due.is("get(" + h + ", " + i + ")", mill.get(h, i), there ? 100 * h + i : NO_INT);
            }
        }
        for (int h : new int[] {MIN, -1, MAX, 1001}) {
            Due.is("length(" + h + ")", mill.length(h), -1);
            Due.is("get(" + h + ", 0)", mill.get(h, 0), NO_INT);
            Due.is("put(" + h + ", 0, 1)", mill.put(h, 0, 1), -1);
        }
        // All ints are let through, with their sign.
        for (int v : new int[] {MIN, -1, 0, 1, MAX}) {
            Due.is("put(1, 2, " + v + ")", mill.put(1, 2, v), 1);
            Due.is("get(1, 2)", mill.get(1, 2), v);
        }
        // Neighbours: the first and the last int of arrays that lie side by side.
        mill.make(2);
        mill.make(1);
        mill.put(3, 0, 30);
        mill.put(3, 1, 31);
        mill.put(4, 0, 40);
        long[] due = {100, 101, MAX, 30, 31, 40};
        int[][] places = {{1, 0}, {1, 1}, {1, 2}, {3, 0}, {3, 1}, {4, 0}};
        for (int i = 0; i < due.length; i++) {
            Due.is("get(" + places[i][0] + ", " + places[i][1] + ")", mill.get(places[i][0], places[i][1]), due[i]);
        }
    }

    private static void argEdges() {
        RegisterMill mill = Mills.with(Picture.FILE);
        for (int i : new int[] {MIN, -2, -1, 8, 9, MAX}) {
            Due.is("arg(" + i + ", 5)", mill.arg(i, 5), -1);
        }
        Due.is("run", mill.run(0, 0, 1000), 1);
        Due.is("all are 0", mill.told(0), 0);
        for (int i = 0; i < 8; i++) {
            Due.is("arg(" + i + ", 1)", mill.arg(i, 1), 1);
            int due = 0;
            for (int k = 0; k < 8; k++) {
                due = due * 31 + (k <= i ? 1 : 0);
            }
            for (int kind = 0; kind < 2; kind++) {
                Due.is("run", mill.run(kind, 0, 1000), 1);
                Due.is("told(0)", mill.told(0), due);
            }
        }
        // It stays for calls to come, whatever a METHOD does with its LOCAL.
        Mills.load(mill, FileMaker.one("(I)I", 1, 1, "84 0005 1a ac"));
        for (int k = 0; k < 3; k++) {
            for (int kind = 0; kind < 2; kind++) {
                mill.run(kind, 0, 100);
                Due.is("told(0)", mill.told(0), 6);
            }
        }
        for (int v : new int[] {MIN, MAX, -1}) {
            mill.arg(0, v);
            mill.run(0, 0, 100);
            Due.is("told(0)", mill.told(0), v + 5);
        }
    }

    private static void toldEdges() {
        RegisterMill mill = new RegisterMill();
        for (int what : new int[] {MIN, -2, -1, 5, 6, MAX}) {
            Due.is("told(" + what + ")", mill.told(what), -1);
        }
        mill.make(7);
        Due.is("before any: 0", mill.told(0), 0);
        Due.is("before any: 3", mill.told(3), 9);
        Due.is("before any: 4", mill.told(4), 1);
        mill.run(0, 0, 1);
        Due.is("behind -8", mill.told(2), 0);
    }

    private static void clearEdges() {
        RegisterMill mill = Mills.with(Picture.FILE);
        Due.is("clear() of none", mill.clear(), 0);
        for (int i = 0; i < 8; i++) {
            mill.arg(i, 3);
        }
        mill.make(1990);
        mill.put(1, 1989, 5);
        mill.make(6);
        Due.is("full", mill.make(0), -6);
        Due.is("clear()", mill.clear(), 2);
        Due.is("clear() again", mill.clear(), 0);
        Due.is("told(3)", mill.told(3), 0);
        Due.is("told(4)", mill.told(4), 0);
        Due.is("length(1)", mill.length(1), -1);
        for (int kind = 0; kind < 2; kind++) {
            Due.is("run", mill.run(kind, 0, 1000), 1);
            Due.is("arguments are 0", mill.told(0), 0);
        }
        Due.is("numbered from 1 again", mill.make(1998), 1);
        Due.is("ints 0", mill.get(1, 1989), 0);
        Due.is("the file stays", mill.method(0, 0), 8);
        Due.is("clear()", mill.clear(), 1);
        // What the latest run() told stays.
        mill.arg(0, 4);
        mill.run(0, 2, 100);
        Due.is("told(0)", mill.told(0), 1);
        Due.is("clear()", mill.clear(), 1);
        Due.is("told(0)", mill.told(0), 1);
        Due.is("told(1)", mill.told(1), 3);
        Due.is("told(2)", mill.told(2), 1);
        // The tape stays, too.
        byte[] file = FileMaker.one("()V", 0, 0, "b1");
        Mills.feed(mill, file);
        mill.clear();
        Due.is("load()", mill.load(), 1);
    }

    private static void checks() {
        RegisterMill mill = new RegisterMill();
        Due.is("without a file", mill.check(), 1);
        Mills.load(mill, new byte[] {1});
        Due.is("behind a FAULT", mill.check(), 1);
        Mills.load(mill, Picture.FILE);
        Due.is("with a file", mill.check(), 1);
        mill.run(1, 0, 5);
        Due.is("behind a run", mill.check(), 1);
    }

    private static void refused(String call, long due, ToLongFunction<RegisterMill> how) {
        ALL.add(new Refused(call, due, how));
    }

    /** The calls that answer that they were refused, and those that only tell, on what Picture.prepared() makes. */
    private static void collect() {
        for (int n : new int[] {MIN, -1, 21, MAX}) {
            refused("end(" + n + ")", -1, mill -> mill.end(n));
        }
        for (int i : new int[] {MIN, -1, 3, MAX}) {
            refused("method(" + i + ", 0)", -1, mill -> mill.method(i, 0));
            refused("state(" + i + ", 0, 0)", -1, mill -> mill.state(i, 0, 0));
            refused("unit(" + i + ", 0)", -1, mill -> mill.unit(i, 0));
            refused("out(" + (i == 3 ? 100000 : i) + ")", -1, mill -> mill.out(i == 3 ? 100000 : i));
            refused("run(0, " + i + ", 10)", -8, mill -> mill.run(0, i, 10));
            refused("run(1, " + i + ", 10)", -8, mill -> mill.run(1, i, 10));
        }
        for (int i : new int[] {MIN, -1, 8, MAX}) {
            refused("arg(" + i + ", 5)", -1, mill -> mill.arg(i, 5));
            refused("put(1, " + i + ", 5)", -1, mill -> mill.put(1, i, 5));
            refused("get(1, " + i + ")", NO_INT, mill -> mill.get(1, i));
        }
        for (int h : new int[] {MIN, -1, 0, 4, 1000, 1001, MAX}) {
            refused("put(" + h + ", 0, 5)", -1, mill -> mill.put(h, 0, 5));
            refused("get(" + h + ", 0)", NO_INT, mill -> mill.get(h, 0));
            refused("length(" + h + ")", -1, mill -> mill.length(h));
        }
        refused("put(1, 4, 5)", -1, mill -> mill.put(1, 4, 5));
        refused("put(2, 0, 5)", -1, mill -> mill.put(2, 0, 5));
        refused("put(3, 2, 5)", -1, mill -> mill.put(3, 2, 5));
        for (int n : new int[] {MIN, -1}) {
            refused("make(" + n + ")", -4, mill -> mill.make(n));
        }
        // 4 + 2, 0 + 2 and 2 + 2 cells are taken: 1986 are the most that another one may have.
        for (int n : new int[] {1987, 1988, 2000, MAX - 1, MAX}) {
            refused("make(" + n + ")", -6, mill -> mill.make(n));
        }
        for (int n : new int[] {MIN, -1, 100001, MAX}) {
            refused("run(0, 0, " + n + ")", -8, mill -> mill.run(0, 0, n));
            refused("run(1, 0, " + n + ")", -8, mill -> mill.run(1, 0, n));
        }
        for (int kind : new int[] {MIN, -1, 2, MAX}) {
            refused("run(" + kind + ", 0, 10)", -8, mill -> mill.run(kind, 0, 10));
        }
        for (int what : new int[] {MIN, -1, 5, MAX}) {
            refused("told(" + what + ")", -1, mill -> mill.told(what));
        }
        // Those that only tell.
        refused("place()", 6, mill -> mill.place());
        refused("check()", 1, mill -> mill.check());
        refused("method(0, 0)", 8, mill -> mill.method(0, 0));
        refused("state(0, 0, 1)", 0x1a, mill -> mill.state(0, 0, 1));
        refused("out(0)", 0x64, mill -> mill.out(0));
        refused("length(1)", 4, mill -> mill.length(1));
        refused("get(1, 3)", 31, mill -> mill.get(1, 3));
        refused("told(4)", 3, mill -> mill.told(4));
        refused("end(20)", 25, mill -> mill.end(20));
    }

    private static void leavesAll(Refused one) {
        RegisterMill mill = Picture.prepared();
        Due.is(one.call, one.how.applyAsLong(mill), one.due);
        Picture.same("behind " + one.call, Picture.ofAll(mill), Picture.ofAll(Picture.prepared()));
    }

    private static void arrayArguments() {
        for (int v : new int[] {MIN, -1, 4, 5, MAX}) {
            RegisterMill wrong = Picture.prepared();
            wrong.arg(0, v);
            Due.is("run(0, 1, 10) with " + v, wrong.run(0, 1, 10), -8);
            Due.is("run(1, 1, 10) with " + v, wrong.run(1, 1, 10), -8);
            RegisterMill twin = Picture.prepared();
            twin.arg(0, v);
            Picture.same("behind an argument " + v, Picture.ofAll(wrong), Picture.ofAll(twin));
        }
        for (int v = 0; v <= 3; v++) {
            RegisterMill right = Picture.prepared();
            right.arg(0, v);
            int[] due = {0, 64, 0, 0};
            for (int kind = 0; kind < 2; kind++) {
                Due.is("run(" + kind + ", 1, 1000) with " + v, right.run(kind, 1, 1000), v == 0 ? -3 : 1);
                Due.is("told(0)", right.told(0), due[v]);
            }
        }
    }
}
