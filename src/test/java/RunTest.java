/** Promises 11 to 18, section 5: arrays, arguments, runs and what is told of them. */
public final class RunTest {
    private static final long NO_INT = 1099511627776L;

    public static void main(String[] args) {
        heap();
        arguments();
        stepsAndBounds();
        sums();
        conversions();
        questions();
        exceptions();
        depth();
        arrays();
        switches();
        calls();
        afterOthers();
        told();
        Due.close();
    }

    private static void heap() {
        RegisterMill mill = new RegisterMill();
        Due.is("make(-1)", mill.make(-1), -4);
        Due.is("make(MIN)", mill.make(Integer.MIN_VALUE), -4);
        Due.is("make(MAX)", mill.make(Integer.MAX_VALUE), -6);
        Due.is("make(1999)", mill.make(1999), -6);
        Due.is("make(1998)", mill.make(1998), 1);
        Due.is("told(3)", mill.told(3), 2000);
        Due.is("told(4)", mill.told(4), 1);
        Due.is("make(0)", mill.make(0), -6);
        Due.is("make(-1), full", mill.make(-1), -4);
        Due.is("put", mill.put(1, 1997, 7), 1);
        Due.is("get", mill.get(1, 1997), 7);
        Due.is("get", mill.get(1, 1998), NO_INT);
        Due.is("clear()", mill.clear(), 1);
        Due.is("length(1)", mill.length(1), -1);
        Due.is("get", mill.get(1, 0), NO_INT);
        Due.is("put", mill.put(1, 0, 1), -1);
        Due.is("told(3)", mill.told(3), 0);
        Due.is("make(5)", mill.make(5), 1);
        Due.is("make(0)", mill.make(0), 2);
        Due.is("told(3)", mill.told(3), 9);
        Due.is("make(1989)", mill.make(1989), 3);
        Due.is("told(3)", mill.told(3), 2000);
        // An array that comes where another one was has ints 0.
        Due.is("get", mill.get(3, 1988), 0);
        Due.is("length(1)", mill.length(1), 5);
        Due.is("length(2)", mill.length(2), 0);
        Due.is("length(3)", mill.length(3), 1989);
        for (int h : new int[] {0, -1, 4, 1001, Integer.MIN_VALUE, Integer.MAX_VALUE}) {
            Due.is("length(" + h + ")", mill.length(h), -1);
            Due.is("get(" + h + ", 0)", mill.get(h, 0), NO_INT);
            Due.is("put(" + h + ", 0, 1)", mill.put(h, 0, 1), -1);
        }
        for (int i : new int[] {-1, 5, Integer.MIN_VALUE, Integer.MAX_VALUE}) {
            Due.is("get(1, " + i + ")", mill.get(1, i), NO_INT);
            Due.is("put(1, " + i + ", 1)", mill.put(1, i, 1), -1);
        }
        Due.is("get(2, 0)", mill.get(2, 0), NO_INT);
        Due.is("put", mill.put(1, 4, Integer.MIN_VALUE), 1);
        Due.is("get", mill.get(1, 4), Integer.MIN_VALUE);
        Due.is("get", mill.get(1, 3), 0);
        Due.is("clear()", mill.clear(), 3);
        Due.is("clear()", mill.clear(), 0);
        for (int i = 1; i <= 1000; i++) {
            Due.is("make(0)", mill.make(0), i);
        }
        Due.is("make(0)", mill.make(0), -6);
        Due.is("told(4)", mill.told(4), 1000);
        Due.is("clear()", mill.clear(), 1000);
    }

    private static void runIs(RegisterMill mill, int m, int answer, int returned) {
        for (int kind = 0; kind < 2; kind++) {
            Due.is("run(" + kind + ", " + m + ", 100000)", mill.run(kind, m, 100000), answer);
            Due.is("told(0) behind run(" + kind + ", " + m + ")", mill.told(0), returned);
        }
    }

    private static void arguments() {
        RegisterMill mill = Mills.with(new FileMaker().method("f", "(II)I", 2, 2, "1a 1b 64 ac").method("g", "(I[I)I", 1, 2, "2b be ac").file());
        for (int i : new int[] {-1, 8, Integer.MIN_VALUE, Integer.MAX_VALUE}) {
            Due.is("arg(" + i + ", 1)", mill.arg(i, 1), -1);
        }
        for (int i = 0; i < 8; i++) {
            Due.is("arg(" + i + ", 1)", mill.arg(i, 100 * i), 1);
        }
        runIs(mill, 0, 1, -100);
        Due.is("an argument that is no array", mill.run(0, 1, 100), -8);
        Due.is("an argument that is no array", mill.run(1, 1, 100), -8);
        Due.is("told(0) stays", mill.told(0), -100);
        Due.is("told(1) stays", mill.told(1), 6);
        mill.arg(1, 1);
        Due.is("no array yet", mill.run(0, 1, 100), -8);
        Due.is("make(6)", mill.make(6), 1);
        runIs(mill, 1, 1, 6);
        mill.arg(1, 2);
        Due.is("no second array", mill.run(1, 1, 100), -8);
        mill.arg(1, -1);
        Due.is("less than 0", mill.run(1, 1, 100), -8);
        mill.arg(1, 0);
        runIs(mill, 1, -3, 0);
        mill.arg(0, 9);
        Due.is("clear()", mill.clear(), 1);
        runIs(mill, 0, 1, 0);
    }

    private static void stepsAndBounds() {
        RegisterMill mill = Mills.with(FileMaker.one("(II)I", 3, 3, "1a 1b 60 ac"));
        mill.arg(0, 20);
        mill.arg(1, 22);
        for (int n : new int[] {-1, 100001, Integer.MIN_VALUE, Integer.MAX_VALUE}) {
            Due.is("run(0, 0, " + n + ")", mill.run(0, 0, n), -8);
            Due.is("run(1, 0, " + n + ")", mill.run(1, 0, n), -8);
        }
        for (int kind : new int[] {-1, 2, Integer.MIN_VALUE, Integer.MAX_VALUE}) {
            Due.is("run(" + kind + ", 0, 10)", mill.run(kind, 0, 10), -8);
        }
        Due.is("told(2)", mill.told(2), 0);
        int[] needed = {4, 6};
        for (int kind = 0; kind < 2; kind++) {
            for (int n = 0; n <= 7; n++) {
                boolean over = n >= needed[kind];
                Due.is("run(" + kind + ", 0, " + n + ")", mill.run(kind, 0, n), over ? 1 : -7);
                Due.is("told(0)", mill.told(0), over ? 42 : 0);
                Due.is("told(1)", mill.told(1), Math.min(n, needed[kind]));
                Due.is("told(2)", mill.told(2), 1);
            }
        }
        mill = Mills.with(FileMaker.one("()V", 0, 0, "a7 0000"));
        Due.is("for ever", mill.run(0, 0, 100000), -7);
        Due.is("told(1)", mill.told(1), 100000);
        Due.is("for ever", mill.run(1, 0, 100000), -7);
        Due.is("told(1)", mill.told(1), 100000);
        // nop and pop are STEPS of stack code, and none of register code; c4 is one with what it stands before.
        mill = Mills.with(FileMaker.one("()V", 1, 1, "00 03 57 03 c4 36 0000 c4 84 0000 0100 b1"));
        runIs(mill, 0, 0, 0);
        Due.is("told(1)", mill.told(1), 6);
        mill.run(0, 0, 100);
        Due.is("told(1)", mill.told(1), 7);
        // What arrays have stays behind -7.
        mill = Mills.with(FileMaker.one("([I)V", 3, 1, "2a 03 08 4f 03 bc0a 57 a7 0000"));
        mill.make(1);
        mill.arg(0, 1);
        Due.is("run", mill.run(0, 0, 50), -7);
        Due.is("get", mill.get(1, 0), 5);
        Due.is("told(3)", mill.told(3), 5);
        Due.is("told(4)", mill.told(4), 2);
        mill.put(1, 0, 9);
        Due.is("run", mill.run(1, 0, 50), -7);
        Due.is("get", mill.get(1, 0), 5);
        Due.is("told(4)", mill.told(4), 3);
    }

    private static void sums() {
        int[] ops = {0x60, 0x64, 0x68, 0x6c, 0x70, 0x78, 0x7a, 0x7c, 0x7e, 0x80, 0x82};
        int min = Integer.MIN_VALUE;
        int max = Integer.MAX_VALUE;
        int[][] pairs = {{7, 2}, {-7, 2}, {7, -2}, {-7, -2}, {min, -1}, {max, 1}, {min, 1}, {min, min}, {max, max}, {0, 5}, {1, 31}, {1, 32},
            {-1, 33}, {-1, -1}, {12345, 4}, {min, 31}, {65536, 65536}, {3, 64}};
        for (int op : ops) {
            for (int locals : new int[] {2, 13, 20}) {
                RegisterMill mill = Mills.with(FileMaker.one("(II)I", 2, locals, String.format("1a 1b %02x ac", op)));
                for (int[] one : pairs) {
                    mill.arg(0, one[0]);
                    mill.arg(1, one[1]);
                    runIs(mill, 0, 1, sum(op, one[0], one[1]));
                }
                mill.arg(1, 0);
                boolean divides = op == 0x6c || op == 0x70;
                runIs(mill, 0, divides ? -1 : 1, divides ? 0 : sum(op, pairs[pairs.length - 1][0], 0));
            }
        }
    }

    private static int sum(int op, int x, int y) {
        long a = x;
        long b = y;
        switch (op) {
            case 0x60: return (int) (a + b);
            case 0x64: return (int) (a - b);
            case 0x68: return (int) (a * b);
            case 0x6c: return (int) (a / b);
            case 0x70: return (int) (a % b);
            case 0x78: return (int) (a << (y & 31));
            case 0x7a: return (int) (a >> (y & 31));
            case 0x7c: return (int) ((a & 0xffffffffL) >> (y & 31));
            case 0x7e: return x & y;
            case 0x80: return x | y;
            default: return x ^ y;
        }
    }

    private static void conversions() {
        for (int locals : new int[] {1, 20}) {
            FileMaker maker = new FileMaker();
            maker.method("n", "(I)I", 1, locals, "1a 74 ac").method("b", "(I)I", 1, locals, "1a 91 ac");
            maker.method("c", "(I)I", 1, locals, "1a 92 ac").method("s", "(I)I", 1, locals, "1a 93 ac");
            maker.method("i", "(I)I", 1, locals, "84 0080 1a ac").method("w", "(I)I", 1, locals, "c4 84 0000 7fff 1a ac");
            RegisterMill mill = Mills.with(maker.file());
            for (int x : new int[] {0, 1, -1, 127, 128, 255, 256, 32767, 32768, 65535, 65536, -32769, Integer.MIN_VALUE, Integer.MAX_VALUE}) {
                mill.arg(0, x);
                runIs(mill, 0, 1, -x);
                runIs(mill, 1, 1, (byte) x);
                runIs(mill, 2, 1, (char) x);
                runIs(mill, 3, 1, (short) x);
                runIs(mill, 4, 1, x - 128);
                runIs(mill, 5, 1, x + 32767);
            }
        }
    }

    private static void questions() {
        int[] values = {0, 1, -1, Integer.MIN_VALUE, Integer.MAX_VALUE};
        for (int locals : new int[] {2, 13, 20}) {
            for (int i = 0; i < 6; i++) {
                FileMaker maker = new FileMaker().method("z", "(I)I", 1, locals, String.format("1a %02x 0005 03 ac 04 ac", 0x99 + i));
                maker.method("t", "(II)I", 2, locals, String.format("1a 1b %02x 0005 03 ac 04 ac", 0x9f + i));
                RegisterMill mill = Mills.with(maker.file());
                for (int x : values) {
                    for (int y : values) {
                        mill.arg(0, x);
                        mill.arg(1, y);
                        runIs(mill, 0, 1, holds(i, x, 0) ? 1 : 0);
                        runIs(mill, 1, 1, holds(i, x, y) ? 1 : 0);
                    }
                }
            }
            FileMaker maker = new FileMaker().method("n", "([I)I", 1, locals, "2a c6 0005 03 ac 04 ac").method("o", "([I)I", 1, locals, "2a c7 0005 03 ac 04 ac");
            maker.method("s", "([I[I)I", 2, locals, "2a 2b a5 0005 03 ac 04 ac").method("u", "([I[I)I", 2, locals, "2a 2b a6 0005 03 ac 04 ac");
            RegisterMill mill = Mills.with(maker.file());
            mill.make(0);
            mill.make(0);
            for (int x = 0; x <= 2; x++) {
                for (int y = 0; y <= 2; y++) {
                    mill.arg(0, x);
                    mill.arg(1, y);
                    runIs(mill, 0, 1, x == 0 ? 1 : 0);
                    runIs(mill, 1, 1, x != 0 ? 1 : 0);
                    runIs(mill, 2, 1, x == y ? 1 : 0);
                    runIs(mill, 3, 1, x != y ? 1 : 0);
                }
            }
        }
    }

    private static boolean holds(int question, int x, int y) {
        int by = Integer.compare(x, y);
        return new boolean[] {by == 0, by != 0, by < 0, by >= 0, by > 0, by <= 0}[question];
    }

    private static void exceptions() {
        for (int locals : new int[] {2, 20}) {
            FileMaker maker = new FileMaker();
            maker.method("get", "([II)I", 2, locals, "2a 1b 2e ac").method("put", "([II)V", 3, locals, "2a 1b 08 4f b1");
            maker.method("len", "([II)I", 1, locals, "2a be ac").method("new", "(I)[I", 1, locals, "1a bc0a b0");
            RegisterMill mill = Mills.with(maker.file());
            mill.make(3);
            int[][] cases = {{0, 0, -3}, {0, -1, -3}, {0, 5, -3}, {1, -1, -2}, {1, 3, -2}, {1, Integer.MAX_VALUE, -2}, {1, Integer.MIN_VALUE, -2}};
            for (int[] one : cases) {
                mill.arg(0, one[0]);
                mill.arg(1, one[1]);
                runIs(mill, 0, one[2], 0);
                Due.is("STEPS", mill.told(1), 5);
                runIs(mill, 1, one[2], 0);
                runIs(mill, 2, one[0] == 0 ? -3 : 1, one[0] == 0 ? 0 : 3);
            }
            mill.arg(0, 1);
            mill.arg(1, 2);
            runIs(mill, 1, 0, 0);
            Due.is("get", mill.get(1, 2), 5);
            runIs(mill, 0, 1, 5);
            mill.arg(0, -1);
            runIs(mill, 3, -4, 0);
            mill.arg(0, 1994);
            runIs(mill, 3, -6, 0);
            mill.arg(0, Integer.MAX_VALUE);
            runIs(mill, 3, -6, 0);
            Due.is("told(4)", mill.told(4), 1);
            mill.arg(0, 1993);
            Due.is("run", mill.run(locals == 2 ? 0 : 1, 3, 10), 2);
            Due.is("told(0)", mill.told(0), 2);
            Due.is("told(3)", mill.told(3), 2000);
            mill.arg(0, -1);
            runIs(mill, 3, -4, 0);
            mill.arg(0, 0);
            runIs(mill, 3, -6, 0);
        }
    }

    private static void depth() {
        // f(n): n = 0: 0, else f(n - 1) + 1.
        FileMaker maker = new FileMaker();
        int call = maker.own("f", "(I)I");
        maker.method("f", "(I)I", 2, 1, String.format("1a 9a 0005 03 ac 1a 04 64 b800%02x 04 60 ac", call));
        RegisterMill mill = Mills.with(maker.file());
        for (int n = 0; n <= 33; n++) {
            mill.arg(0, n);
            for (int kind = 0; kind < 2; kind++) {
                Due.is("f(" + n + ")", mill.run(kind, 0, 1000), n <= 31 ? 1 : -5);
                Due.is("told(0)", mill.told(0), n <= 31 ? n : 0);
                Due.is("told(2)", mill.told(2), Math.min(n + 1, 32));
            }
        }
        // 31 whole levels of 1a 9a 1a 04 64 b8 and the 32nd's, too: its b8 is begun.
        Due.is("run", mill.run(0, 0, 1000), -5);
        Due.is("told(1)", mill.told(1), 32 * 6);
        Due.is("run", mill.run(0, 0, 191), -7);
        Due.is("told(2)", mill.told(2), 32);
        Due.is("run", mill.run(1, 0, 1000), -5);
        Due.is("told(1)", mill.told(1), 32 * 7);
        // One behind the other is not within one another.
        maker = new FileMaker();
        call = maker.own("g", "()V");
        maker.method("f", "()V", 0, 0, String.format("b800%02x", call).repeat(50) + "b1").method("g", "()V", 0, 0, "b1");
        mill = Mills.with(maker.file());
        runIs(mill, 0, 0, 0);
        Due.is("told(2)", mill.told(2), 2);
        Due.is("told(1)", mill.told(1), 101);
    }

    private static void arrays() {
        // sum of an array, then the array itself back with its first int set.
        FileMaker maker = new FileMaker();
        maker.method("sum", "([I)I", 3, 3, "03 3c 03 3d 1c 2a be a2 000f 1b 2a 1c 2e 60 3c 84 0201 a7 fff1 1b ac");
        maker.method("same", "([I)[I", 3, 1, "2a 03 10 63 4f 2a b0");
        maker.method("none", "()[I", 1, 0, "01 b0");
        RegisterMill mill = Mills.with(maker.file());
        mill.make(10);
        for (int i = 0; i < 10; i++) {
            mill.put(1, i, i * i);
        }
        mill.arg(0, 1);
        runIs(mill, 0, 1, 285);
        runIs(mill, 1, 2, 1);
        Due.is("get", mill.get(1, 0), 99);
        runIs(mill, 2, 2, 0);
    }

    private static void switches() {
        FileMaker maker = new FileMaker();
        String tail = "05 ac 06 ac 07 ac";
        maker.method("t", "(I)I", 1, 1, "1a aa 0000 00000017 fffffffe ffffffff 00000019 0000001b" + tail);
        maker.method("l", "(I)I", 1, 1, "1a ab 0000 0000001b 00000002 80000000 0000001d 7fffffff 0000001f" + tail);
        maker.method("e", "(I)I", 1, 1, "1a ab 0000 0000000b 00000000 05 ac");
        maker.method("top", "(I)I", 1, 1, "1a aa 0000 00000017 7ffffffe 7fffffff 00000019 0000001b" + tail);
        RegisterMill mill = Mills.with(maker.file());
        int[] values = {0, 1, -1, -2, -3, Integer.MIN_VALUE, Integer.MAX_VALUE, Integer.MAX_VALUE - 1, Integer.MAX_VALUE - 2};
        for (int x : values) {
            mill.arg(0, x);
            runIs(mill, 0, 1, x == -2 ? 3 : x == -1 ? 4 : 2);
            // MOVE, MOVE, 2b, then the GOTO of the default; number, return.
            Due.is("STEPS", mill.told(1), x == -2 || x == -1 ? 5 : 6);
            runIs(mill, 1, 1, x == Integer.MIN_VALUE ? 3 : x == Integer.MAX_VALUE ? 4 : 2);
            runIs(mill, 2, 1, 2);
            runIs(mill, 3, 1, x == Integer.MAX_VALUE - 1 ? 3 : x == Integer.MAX_VALUE ? 4 : 2);
        }
    }

    private static void calls() {
        // What is passed keeps its order, what lies below stays, and nothing returned leaves nothing.
        FileMaker maker = new FileMaker();
        int minus = maker.own("minus", "(II)I");
        int none = maker.own("none", "(I)V");
        int array = maker.own("array", "(I)[I");
        maker.method("f", "(II)I", 5, 2, String.format("1064 1a 1b b800%02x 60 1b b800%02x 1a b800%02x be 60 ac", minus, none, array));
        maker.method("minus", "(II)I", 2, 2, "1a 1b 64 ac").method("none", "(I)V", 0, 1, "b1").method("array", "(I)[I", 1, 1, "1a bc0a b0");
        RegisterMill mill = Mills.with(maker.file());
        mill.arg(0, 30);
        mill.arg(1, 7);
        runIs(mill, 0, 1, 100 + 23 + 30);
        Due.is("told(4)", mill.told(4), 2);
    }

    private static void afterOthers() {
        // A call does not see what an earlier one, at the same depth, left in its LOCALS.
        FileMaker maker = new FileMaker();
        int g = maker.own("g", "()V");
        int h = maker.own("h", "()I");
        maker.method("f", "()I", 1, 0, String.format("b800%02x b800%02x ac", g, h));
        maker.method("g", "()V", 1, 3, "08 3b 08 3c 08 3d b1");
        maker.method("h", "()I", 2, 3, "03 3b 1a ac");
        RegisterMill mill = Mills.with(maker.file());
        runIs(mill, 0, 1, 0);
    }

    private static void told() {
        RegisterMill mill = Mills.with(FileMaker.one("(I)I", 1, 1, "1a ac"));
        mill.arg(0, 5);
        mill.make(3);
        Due.is("told(3) before any", mill.told(3), 5);
        Due.is("told(4) before any", mill.told(4), 1);
        Due.is("told(0) before any", mill.told(0), 0);
        mill.run(0, 0, 10);
        Due.is("told(0)", mill.told(0), 5);
        Due.is("told(1)", mill.told(1), 2);
        Due.is("told(2)", mill.told(2), 1);
        mill.make(0);
        Due.is("told(3) now", mill.told(3), 7);
        Due.is("told(4) now", mill.told(4), 2);
        Due.is("clear()", mill.clear(), 2);
        Due.is("told(0) behind clear()", mill.told(0), 5);
        Due.is("told(1) behind clear()", mill.told(1), 2);
        Due.is("told(3) behind clear()", mill.told(3), 0);
        Due.is("told(4) behind clear()", mill.told(4), 0);
        for (int what : new int[] {-1, 5, 6, Integer.MIN_VALUE, Integer.MAX_VALUE}) {
            Due.is("told(" + what + ")", mill.told(what), -1);
        }
    }
}
