/**
 * Section 5 with promises 11, 16 and 17: the HEAP's cells, calls within one another, STEPS, each EXCEPTION and which
 * is looked at first, and each sum, question and switch at its bounds; in stack code and in register code.
 */
public final class RunEdgesTest {
    private static final int MIN = Integer.MIN_VALUE;
    private static final int MAX = Integer.MAX_VALUE;

    public static void main(String[] args) {
        heapByMake();
        heapByCode();
        thousandArrays();
        lessThanNone();
        indexes();
        nullFirst();
        numbers();
        shuffles();
        farGotos();
        addedToEachLocal();
        cellsAreZeroAgain();
        byZero();
        divisions();
        shifts();
        wraps();
        conversions();
        questionsOfZero();
        questionsOfTwo();
        tableKeys();
        lookupKeys();
        thirtyTwoCalls();
        callsBehindOneAnother();
        stepsToTheEnd();
        stepsToAnException();
        mostSteps();
        refusedRuns();
        whatIsArrayForArguments();
        nothingOfEarlierCalls();
        argumentsKeepTheirOrder();
        whatRunsLeave();
        whatIsTold();
        Due.close();
    }

    private static void runIs(RegisterMill mill, int kind, int m, int answer, int returned) {
        Due.is("run(" + kind + ", " + m + ", 100000)", mill.run(kind, m, 100000), answer);
        Due.is("told(0) behind run(" + kind + ", " + m + ")", mill.told(0), returned);
    }

    private static void bothAre(RegisterMill mill, int m, int answer, int returned) {
        runIs(mill, 0, m, answer, returned);
        runIs(mill, 1, m, answer, returned);
    }

    private static void heapIs(RegisterMill mill, int cells, int arrays) {
        Due.is("cells", mill.told(3), cells);
        Due.is("arrays", mill.told(4), arrays);
    }

    private static void heapByMake() {
        RegisterMill mill = new RegisterMill();
        Due.is("make(1999)", mill.make(1999), -6);
        heapIs(mill, 0, 0);
        Due.is("make(1998)", mill.make(1998), 1);
        heapIs(mill, 2000, 1);
        Due.is("make(0)", mill.make(0), -6);
        Due.is("the last int", mill.put(1, 1997, 8), 1);
        Due.is("the last int", mill.get(1, 1997), 8);
        Due.is("length", mill.length(1), 1998);
        // With one cell left not even an array of none, with two just that.
        for (int left = 0; left <= 4; left++) {
            mill = new RegisterMill();
            Due.is("make", mill.make(1998 - left), 1);
            heapIs(mill, 2000 - left, 1);
            Due.is("make(0) with " + left, mill.make(0), left >= 2 ? 2 : -6);
            heapIs(mill, left >= 2 ? 2002 - left : 2000 - left, left >= 2 ? 2 : 1);
        }
        mill = new RegisterMill();
        mill.make(100);
        Due.is("make(1897)", mill.make(1897), -6);
        Due.is("make(1896)", mill.make(1896), 2);
        heapIs(mill, 2000, 2);
        // Large ones do not wrap.
        mill = new RegisterMill();
        for (int n : new int[] {MAX, MAX - 1, MAX - 2, 2000, 65536 * 65535}) {
            Due.is("make(" + n + ")", mill.make(n), n < 0 ? -4 : -6);
        }
        heapIs(mill, 0, 0);
    }

    private static RegisterMill maker(int locals) {
        return Mills.with(new FileMaker().method("made", "(I)[I", 1, locals, "1a bc0a b0")
            .method("many", "(I)V", 1, locals, "03 bc0a 57 84 00ff 1a 9a fff8 b1").file());
    }

    private static void heapByCode() {
        for (int kind = 0; kind < 2; kind++) {
            for (int locals : new int[] {1, 13, 14, 40}) {
                RegisterMill mill = maker(locals);
                int[] wrong = {1999, 2000, MAX, MAX - 1};
                for (int n : wrong) {
                    mill.arg(0, n);
                    runIs(mill, kind, 0, -6, 0);
                    heapIs(mill, 0, 0);
                }
                mill.arg(0, 1998);
                runIs(mill, kind, 0, 2, 1);
                heapIs(mill, 2000, 1);
                Due.is("length", mill.length(1), 1998);
                mill.arg(0, 0);
                runIs(mill, kind, 0, -6, 0);
                heapIs(mill, 2000, 1);
                mill.clear();
                mill.make(1000);
                mill.arg(0, 997);
                runIs(mill, kind, 0, -6, 0);
                mill.arg(0, 996);
                runIs(mill, kind, 0, 2, 2);
                heapIs(mill, 2000, 2);
                // For ever: an array that nothing holds any more keeps its cells.
                mill.clear();
                mill.arg(0, 500);
                for (int i = 1; i <= 3; i++) {
                    runIs(mill, kind, 0, 2, i);
                }
                runIs(mill, kind, 0, -6, 0);
                heapIs(mill, 1506, 3);
            }
        }
    }

    private static void thousandArrays() {
        for (int kind = 0; kind < 2; kind++) {
            RegisterMill mill = maker(1);
            mill.arg(0, 999);
            runIs(mill, kind, 1, 0, 0);
            heapIs(mill, 1998, 999);
            mill.arg(0, 1);
            runIs(mill, kind, 1, 0, 0);
            heapIs(mill, 2000, 1000);
            Due.is("length(1000)", mill.length(1000), 0);
            Due.is("length(1001)", mill.length(1001), -1);
            runIs(mill, kind, 1, -6, 0);
            heapIs(mill, 2000, 1000);
            Due.is("make(0)", mill.make(0), -6);
            Due.is("clear()", mill.clear(), 1000);
            mill.arg(0, 1001);
            runIs(mill, kind, 1, -6, 0);
            heapIs(mill, 2000, 1000);
        }
    }

    private static void lessThanNone() {
        for (int kind = 0; kind < 2; kind++) {
            RegisterMill mill = maker(1);
            for (int full = 0; full < 2; full++) {
                for (int n : new int[] {-1, -2, MIN}) {
                    Due.is("make(" + n + ")", mill.make(n), -4);
                    mill.arg(0, n);
                    runIs(mill, kind, 0, -4, 0);
                }
                heapIs(mill, full * 2000, full);
                mill.make(1998);
            }
            mill.clear();
            mill.arg(0, 0);
            runIs(mill, kind, 0, 2, 1);
            heapIs(mill, 2, 1);
        }
    }

    private static RegisterMill arrayUser(int locals) {
        return Mills.with(new FileMaker().method("load", "([II)I", 3, locals, "2a 1b 2e ac")
            .method("store", "([II)V", 3, locals, "2a 1b 1063 4f b1").method("length", "([I)I", 1, locals, "2a be ac").file());
    }

    private static void indexes() {
        for (int locals : new int[] {2, 13, 20}) {
            RegisterMill mill = arrayUser(locals);
            mill.make(3);
            mill.make(0);
            mill.put(1, 0, 10);
            mill.put(1, 2, 12);
            for (int kind = 0; kind < 2; kind++) {
                for (int i : new int[] {MIN, -1, 0, 2, 3, MAX}) {
                    mill.arg(0, 1);
                    mill.arg(1, i);
                    boolean there = i == 0 || i == 2;
                    runIs(mill, kind, 0, there ? 1 : -2, there ? 10 + i : 0);
                    runIs(mill, kind, 1, there ? 0 : -2, 0);
                    if (there) {
                        Due.is("stored", mill.get(1, i), 99);
                        mill.put(1, i, 10 + i);
                    }
                    mill.arg(0, 2);
                    runIs(mill, kind, 0, -2, 0);
                    runIs(mill, kind, 1, -2, 0);
                }
                Due.is("not touched", mill.get(1, 1), 0);
                mill.arg(0, 1);
                runIs(mill, kind, 2, 1, 3);
                mill.arg(0, 2);
                runIs(mill, kind, 2, 1, 0);
            }
        }
    }

    private static void nullFirst() {
        for (int locals : new int[] {2, 13, 20}) {
            RegisterMill mill = arrayUser(locals);
            mill.make(3);
            mill.arg(0, 0);
            for (int i : new int[] {MIN, -1, 0, 3, MAX}) {
                mill.arg(1, i);
                for (int m = 0; m < 3; m++) {
                    bothAre(mill, m, -3, 0);
                }
            }
        }
    }

    private static RegisterMill sums(int locals) {
        FileMaker maker = new FileMaker();
        String[] ops = {"60", "64", "68", "6c", "70", "78", "7a", "7c"};
        for (String op : ops) {
            maker.method("f" + op, "(II)I", 2, locals, "1a 1b" + op + "ac");
        }
        return Mills.with(maker.file());
    }

    private static void sumIs(RegisterMill mill, int m, int x, int y, int answer, int due) {
        mill.arg(0, x);
        mill.arg(1, y);
        bothAre(mill, m, answer, due);
    }

    private static void numbers() {
        int[] values = {-8, -9, 7, 8, 127, 128, 32767, 32768, -32768, -32769, 65535, 65536, -65536, 0x7fff0000, 0x12345678, 0x87654321, 0x00018000, MIN, MAX, 0};
        for (int value : values) {
            for (int locals : new int[] {0, 13, 14, 40}) {
                FileMaker maker = new FileMaker();
                int constant = maker.integer(value);
                maker.method("f", "()I", 1, locals, String.format("12%02x ac", constant)).method("g", "()I", 1, locals, String.format("1300%02x ac", constant));
                RegisterMill mill = Mills.with(maker.file());
                bothAre(mill, 0, 1, value);
                bothAre(mill, 1, 1, value);
            }
        }
        String[] codes = {"02", "03", "04", "05", "06", "07", "08", "1080", "107f", "10ff", "118000", "117fff", "11ffff", "110080"};
        int[] due = {-1, 0, 1, 2, 3, 4, 5, -128, 127, -1, -32768, 32767, -1, 128};
        for (int i = 0; i < codes.length; i++) {
            bothAre(Mills.with(FileMaker.one("()I", 1, 0, codes[i] + "ac")), 0, 1, due[i]);
        }
        bothAre(Mills.with(FileMaker.one("()[I", 1, 0, "01 b0")), 0, 2, 0);
    }

    /** What each of 59, 5a, 5c, 5f leaves, told as the digits of a number, over one that must stay. */
    private static void shuffles() {
        String[] ops = {"", "59", "5a", "5c", "5f", "57"};
        int[] due = {823, 8233, 8323, 82323, 832, 82};
        int[] left = {3, 4, 4, 5, 3, 2};
        for (int i = 0; i < ops.length; i++) {
            for (int locals : new int[] {3, 9, 10, 11, 12, 13, 14, 20}) {
                // Stored in LOCALS from the top on, then put together.
                StringBuilder code = new StringBuilder("1008 05 06" + ops[i]);
                for (int k = left[i] - 1; k >= 0; k--) {
                    code.append(String.format("36%02x", k));
                }
                code.append("03");
                for (int k = 0; k < left[i]; k++) {
                    code.append(String.format("100a 68 15%02x 60", k));
                }
                RegisterMill mill = Mills.with(FileMaker.one("()I", 5, Math.max(locals, left[i]), code + "ac"));
                bothAre(mill, 0, 1, due[i]);
            }
        }
    }

    private static void farGotos() {
        // Over k numbers: forward to the end, where 5 is returned, and back to the beginning, where it goes on to there.
        for (int k = 118; k <= 132; k++) {
            int end = 7 + 2 * k;
            String forward = "1a 990006" + String.format("a7%04x", end - 4) + "0357".repeat(k) + "08 ac";
            RegisterMill mill = Mills.with(FileMaker.one("(I)I", 1, 1, forward));
            for (int x = 0; x < 2; x++) {
                mill.arg(0, x);
                bothAre(mill, 0, 1, 5);
                Due.is("STEPS", mill.told(1), x == 0 ? 3 + k + 2 : 3 + 1 + 2);
            }
            // 0: 1a 99 to the end, LOCAL 0 becomes 0, k numbers, back to 0.
            int at = 6 + 2 * k;
            String back = "1a" + String.format("99%04x", at + 2) + "03 3b" + "0357".repeat(k) + String.format("a7%04x", -at & 0xffff) + "08 ac";
            mill = Mills.with(FileMaker.one("(I)I", 1, 1, back));
            mill.arg(0, 1);
            bothAre(mill, 0, 1, 5);
        }
        // A GOTO to itself: 2a, for ever, with codes behind it that would return.
        RegisterMill mill = Mills.with(new FileMaker().method("a", "(I)I", 1, 1, "1a 990006 a70000 08 ac").method("b", "()I", 1, 0, "06 ac")
            .method("c", "()V", 0, 0, "00 00 a7fffe").file());
        for (int kind = 0; kind < 2; kind++) {
            mill.arg(0, 1);
            Due.is("for ever", mill.run(kind, 0, 100000), -7);
            Due.is("for ever", mill.run(kind, 2, 100000), -7);
            Due.is("told(1)", mill.told(1), 100000);
            mill.arg(0, 0);
            runIs(mill, kind, 0, 1, 5);
        }
    }

    private static void addedToEachLocal() {
        for (int local = 0; local < 40; local++) {
            String code = String.format("08 36%02x 84%02x64 c484%04xfc18 15%02x ac", local, local, local, local);
            bothAre(Mills.with(FileMaker.one("()I", 1, 40, code)), 0, 1, 5 + 100 - 1000);
        }
    }

    private static void cellsAreZeroAgain() {
        RegisterMill mill = maker(1);
        for (int kind = 0; kind < 2; kind++) {
            mill.make(5);
            for (int i = 0; i < 5; i++) {
                mill.put(1, i, 9);
            }
            mill.clear();
            mill.arg(0, 5);
            runIs(mill, kind, 0, 2, 1);
            for (int i = 0; i < 5; i++) {
                Due.is("get(1, " + i + ")", mill.get(1, i), 0);
                mill.put(1, i, 9);
            }
            mill.clear();
            Due.is("make(5)", mill.make(5), 1);
            for (int i = 0; i < 5; i++) {
                Due.is("get(1, " + i + ")", mill.get(1, i), 0);
            }
            mill.clear();
        }
    }

    private static void byZero() {
        for (int locals : new int[] {2, 12, 13, 14}) {
            RegisterMill mill = sums(locals);
            for (int x : new int[] {MIN, -1, 0, 1, MAX}) {
                sumIs(mill, 3, x, 0, -1, 0);
                sumIs(mill, 4, x, 0, -1, 0);
            }
        }
    }

    private static void divisions() {
        int[][] due = {{MIN, -1, MIN, 0}, {MIN, 1, MIN, 0}, {MAX, -1, -MAX, 0}, {MIN + 1, -1, MAX, 0}, {7, 2, 3, 1}, {-7, 2, -3, -1}, {7, -2, -3, 1},
            {-7, -2, 3, -1}, {0, -1, 0, 0}, {1, MIN, 0, 1}, {-1, MIN, 0, -1}, {MIN, MIN, 1, 0}, {MIN, MAX, -1, -1}, {MAX, MIN, 0, MAX}, {6, 3, 2, 0}};
        for (int locals : new int[] {2, 13}) {
            RegisterMill mill = sums(locals);
            for (int[] one : due) {
                sumIs(mill, 3, one[0], one[1], 1, one[2]);
                sumIs(mill, 4, one[0], one[1], 1, one[3]);
            }
        }
    }

    private static void shifts() {
        // x, by, shl, shr, ushr: by the lowest 5 bits.
        int[][] due = {{1, 0, 1, 1, 1}, {1, 31, MIN, 0, 0}, {1, 32, 1, 1, 1}, {1, 33, 2, 0, 0}, {1, -1, MIN, 0, 0}, {1, -32, 1, 1, 1}, {1, 63, MIN, 0, 0},
            {MIN, 31, 0, -1, 1}, {MIN, 1, 0, -1073741824, 1073741824}, {-1, 31, MIN, -1, 1}, {-1, 32, -1, -1, -1}, {-8, 2, -32, -2, 1073741822},
            {MIN, MIN, MIN, MIN, MIN}, {MIN, MAX, 0, -1, 1}};
        for (int locals : new int[] {2, 13}) {
            RegisterMill mill = sums(locals);
            for (int[] one : due) {
                for (int k = 0; k < 3; k++) {
                    sumIs(mill, 5 + k, one[0], one[1], 1, one[2 + k]);
                }
            }
        }
    }

    private static void wraps() {
        for (int locals : new int[] {2, 13}) {
            RegisterMill mill = sums(locals);
            sumIs(mill, 0, MAX, 1, 1, MIN);
            sumIs(mill, 0, MIN, -1, 1, MAX);
            sumIs(mill, 0, MAX, MAX, 1, -2);
            sumIs(mill, 1, MIN, 1, 1, MAX);
            sumIs(mill, 1, 0, MIN, 1, MIN);
            sumIs(mill, 1, MAX, -1, 1, MIN);
            sumIs(mill, 2, 65536, 65536, 1, 0);
            sumIs(mill, 2, 65536, 32768, 1, MIN);
            sumIs(mill, 2, MIN, -1, 1, MIN);
            sumIs(mill, 2, MAX, MAX, 1, 1);
            sumIs(mill, 2, 46341, 46341, 1, -2147479015);
        }
        // 84 of one byte and of two.
        String[] codes = {"84 007f", "84 0080", "c4 84 0000 7fff", "c4 84 0000 8000", "c4 84 0000 0080", "c4 84 0000 ff7f"};
        int[] more = {127, -128, 32767, -32768, 128, -129};
        for (int i = 0; i < codes.length; i++) {
            RegisterMill mill = Mills.with(FileMaker.one("(I)I", 1, 1, codes[i] + "1a ac"));
            for (int x : new int[] {MIN, -1, 0, MAX}) {
                mill.arg(0, x);
                bothAre(mill, 0, 1, x + more[i]);
            }
        }
    }

    private static void conversions() {
        int[][] due = {{127, -127, 127, 127, 127}, {128, -128, -128, 128, 128}, {-128, 128, -128, 65408, -128}, {-129, 129, 127, 65407, -129},
            {255, -255, -1, 255, 255}, {256, -256, 0, 256, 256}, {32767, -32767, -1, 32767, 32767}, {32768, -32768, 0, 32768, -32768},
            {-32768, 32768, 0, 32768, -32768}, {-32769, 32769, -1, 32767, 32767}, {65535, -65535, -1, 65535, -1}, {65536, -65536, 0, 0, 0},
            {MIN, MIN, 0, 0, 0}, {MAX, -MAX, -1, 65535, -1}, {0, 0, 0, 0, 0}, {-1, 1, -1, 65535, -1}};
        for (int locals : new int[] {1, 13, 14}) {
            RegisterMill mill = Mills.with(new FileMaker().method("n", "(I)I", 1, locals, "1a 74 ac").method("b", "(I)I", 1, locals, "1a 91 ac")
                .method("c", "(I)I", 1, locals, "1a 92 ac").method("s", "(I)I", 1, locals, "1a 93 ac").file());
            for (int[] one : due) {
                mill.arg(0, one[0]);
                for (int m = 0; m < 4; m++) {
                    bothAre(mill, m, 1, one[1 + m]);
                }
            }
        }
    }

    private static void questionsOfZero() {
        int[] values = {MIN, -1, 0, 1, MAX};
        String[] yes = {"00100", "11011", "11000", "00111", "00011", "11100"};
        for (int locals : new int[] {1, 14}) {
            FileMaker maker = new FileMaker();
            for (int i = 0; i < 6; i++) {
                maker.method("q" + i, "(I)I", 1, locals, String.format("1a %02x0005 03 ac 04 ac", 0x99 + i));
            }
            RegisterMill mill = Mills.with(maker.file());
            for (int k = 0; k < values.length; k++) {
                mill.arg(0, values[k]);
                for (int i = 0; i < 6; i++) {
                    bothAre(mill, i, 1, yes[i].charAt(k) - '0');
                }
            }
        }
    }

    private static void questionsOfTwo() {
        int[][] pairs = {{1, 2}, {2, 2}, {2, 1}, {MIN, MAX}, {MAX, MIN}, {MIN, MIN}, {-1, 0}, {0, -1}, {MIN, 0}, {0, MIN}, {-1, 1}};
        for (int locals : new int[] {2, 12, 13, 14}) {
            FileMaker maker = new FileMaker();
            for (int i = 0; i < 6; i++) {
                maker.method("q" + i, "(II)I", 2, locals, String.format("1a 1b %02x0005 03 ac 04 ac", 0x9f + i));
            }
            maker.method("same", "([I[I)I", 2, locals, "2a 2b a50005 03 ac 04 ac").method("other", "([I[I)I", 2, locals, "2a 2b a60005 03 ac 04 ac");
            RegisterMill mill = Mills.with(maker.file());
            for (int[] one : pairs) {
                mill.arg(0, one[0]);
                mill.arg(1, one[1]);
                int by = Integer.compare(one[0], one[1]);
                boolean[] due = {by == 0, by != 0, by < 0, by >= 0, by > 0, by <= 0};
                for (int i = 0; i < 6; i++) {
                    bothAre(mill, i, 1, due[i] ? 1 : 0);
                }
            }
            // Two arrays of the same ints are not the same; null and null are.
            mill.make(1);
            mill.make(1);
            for (int x = 0; x <= 2; x++) {
                for (int y = 0; y <= 2; y++) {
                    mill.arg(0, x);
                    mill.arg(1, y);
                    bothAre(mill, 6, 1, x == y ? 1 : 0);
                    bothAre(mill, 7, 1, x == y ? 0 : 1);
                }
            }
        }
    }

    /** A table whose case i returns the byte 10 + i, the default 5. */
    private static String table(int low, int n) {
        StringBuilder code = new StringBuilder(String.format("1a aa0000 %08x %08x %08x", 15 + 4 * n, low, low + n - 1));
        for (int i = 0; i < n; i++) {
            code.append(String.format(" %08x", 15 + 4 * n + 2 + 3 * i));
        }
        code.append("08 ac");
        for (int i = 0; i < n; i++) {
            code.append(String.format("10%02x ac", 10 + i));
        }
        return code.toString();
    }

    private static void tableKeys() {
        int[][] tables = {{0, 1}, {0, 2}, {-1, 3}, {MIN, 1}, {MIN, 4}, {MAX, 1}, {MAX - 3, 4}, {-20, 40}, {1000, 40}};
        for (int[] one : tables) {
            RegisterMill mill = Mills.with(FileMaker.one("(I)I", 1, 1, table(one[0], one[1])));
            int low = one[0];
            int high = low + one[1] - 1;
            for (int x : new int[] {low - 1, low, low + 1, high - 1, high, high + 1, 0, -1, 1, MIN, MAX, low + 65536, low ^ MIN}) {
                mill.arg(0, x);
                boolean within = x >= low && x <= high;
                bothAre(mill, 0, 1, within ? 10 + (x - low) : 5);
            }
        }
    }

    private static void lookupKeys() {
        int[][] all = {{}, {0}, {MIN}, {MAX}, {MIN, MAX}, {-1, 0, 1}, {5, 7, 9}, {MIN, -70000, -1, 65536, MAX}};
        for (int[] keys : all) {
            int n = keys.length;
            StringBuilder code = new StringBuilder(String.format("1a ab0000 %08x %08x", 11 + 8 * n, n));
            for (int i = 0; i < n; i++) {
                code.append(String.format(" %08x %08x", keys[i], 11 + 8 * n + 2 + 3 * i));
            }
            code.append("08 ac");
            for (int i = 0; i < n; i++) {
                code.append(String.format("10%02x ac", 10 + i));
            }
            RegisterMill mill = Mills.with(FileMaker.one("(I)I", 1, 1, code.toString()));
            for (int x : new int[] {MIN, MIN + 1, -70001, -70000, -69999, -2, -1, 0, 1, 2, 4, 5, 6, 7, 8, 9, 10, 65535, 65536, 65537, MAX - 1, MAX}) {
                int due = 5;
                for (int i = 0; i < n; i++) {
                    due = keys[i] == x ? 10 + i : due;
                }
                mill.arg(0, x);
                bothAre(mill, 0, 1, due);
            }
        }
    }

    /** f(n) calls f(n - 1); f(0) returns 0: n + 1 METHODS within one another. */
    private static RegisterMill deep() {
        FileMaker maker = new FileMaker();
        int call = maker.own("f", "(I)I");
        maker.method("f", "(I)I", 2, 1, String.format("1a 9a 0005 03 ac 1a 04 64 b800%02x 04 60 ac", call));
        return Mills.with(maker.file());
    }

    private static void thirtyTwoCalls() {
        RegisterMill mill = deep();
        for (int n : new int[] {0, 1, 30, 31, 32, 33, 1000}) {
            mill.arg(0, n);
            for (int kind = 0; kind < 2; kind++) {
                boolean within = n <= 31;
                runIs(mill, kind, 0, within ? 1 : -5, within ? n : 0);
                Due.is("told(2) of " + n, mill.told(2), Math.min(n + 1, 32));
            }
        }
        // The 33rd call's own STEP is begun: 32 times 1a 9a 1a 04 64 b8, in register code with a MOVE before.
        mill.arg(0, 32);
        int[] steps = {32 * 6, 32 * 7};
        for (int kind = 0; kind < 2; kind++) {
            Due.is("run", mill.run(kind, 0, steps[kind]), -5);
            Due.is("STEPS", mill.told(1), steps[kind]);
            Due.is("told(2)", mill.told(2), 32);
            Due.is("run", mill.run(kind, 0, steps[kind] - 1), -7);
            Due.is("STEPS", mill.told(1), steps[kind] - 1);
            Due.is("told(2)", mill.told(2), 32);
        }
        // It ends all; the next run begins anew.
        mill.arg(0, 31);
        bothAre(mill, 0, 1, 31);
        // A METHOD without arguments that calls itself for ever.
        FileMaker maker = new FileMaker();
        int call = maker.own("f", "()V");
        mill = Mills.with(maker.method("f", "()V", 0, 0, String.format("b800%02x b1", call)).file());
        for (int kind = 0; kind < 2; kind++) {
            runIs(mill, kind, 0, -5, 0);
            Due.is("STEPS", mill.told(1), 32);
            Due.is("told(2)", mill.told(2), 32);
            Due.is("run", mill.run(kind, 0, 31), -7);
            Due.is("told(2)", mill.told(2), 32);
            Due.is("run", mill.run(kind, 0, 30), -7);
            Due.is("told(2)", mill.told(2), 31);
        }
    }

    private static void callsBehindOneAnother() {
        FileMaker maker = new FileMaker();
        int g = maker.own("g", "()V");
        int h = maker.own("h", "()V");
        maker.method("f", "()V", 0, 0, String.format("b800%02x", g).repeat(40) + "b1");
        maker.method("g", "()V", 0, 0, String.format("b800%02x b1", h)).method("h", "()V", 0, 0, "b1");
        RegisterMill mill = Mills.with(maker.file());
        for (int kind = 0; kind < 2; kind++) {
            runIs(mill, kind, 0, 0, 0);
            Due.is("told(1)", mill.told(1), 40 * 4 + 1);
            Due.is("told(2)", mill.told(2), 3);
            runIs(mill, kind, 2, 0, 0);
            Due.is("told(2)", mill.told(2), 1);
        }
    }

    private static void stepsToTheEnd() {
        // 1a 1b 60 ac: four STEPS, and two MOVES more in register code.
        RegisterMill mill = Mills.with(FileMaker.one("(II)I", 3, 3, "1a 1b 60 ac"));
        mill.arg(0, 40);
        mill.arg(1, 2);
        int[] needed = {4, 6};
        for (int kind = 0; kind < 2; kind++) {
            for (int n = 0; n <= 8; n++) {
                boolean over = n >= needed[kind];
                Due.is("run(" + kind + ", 0, " + n + ")", mill.run(kind, 0, n), over ? 1 : -7);
                Due.is("told(0)", mill.told(0), over ? 42 : 0);
                Due.is("told(1)", mill.told(1), Math.min(n, needed[kind]));
                Due.is("told(2)", mill.told(2), 1);
            }
        }
        // One STEP is enough for b1 alone.
        mill = Mills.with(FileMaker.one("()V", 0, 0, "b1"));
        for (int kind = 0; kind < 2; kind++) {
            Due.is("run(" + kind + ", 0, 0)", mill.run(kind, 0, 0), -7);
            Due.is("told(1)", mill.told(1), 0);
            Due.is("run(" + kind + ", 0, 1)", mill.run(kind, 0, 1), 0);
            Due.is("told(1)", mill.told(1), 1);
        }
        // nop and pop are STEPS of stack code alone; a table is none of register code, the GOTO behind a 2c is.
        mill = Mills.with(FileMaker.one("()V", 1, 0, "00 03 57 00 b1"));
        runIs(mill, 0, 0, 0, 0);
        Due.is("stack code", mill.told(1), 5);
        runIs(mill, 1, 0, 0, 0);
        Due.is("register code", mill.told(1), 2);
        mill = Mills.with(FileMaker.one("(I)V", 1, 1, "1a ab0000 00000013 00000001 00000007 00000013 b1"));
        for (int x : new int[] {7, 8}) {
            mill.arg(0, x);
            runIs(mill, 0, 0, 0, 0);
            Due.is("stack code", mill.told(1), 3);
            runIs(mill, 1, 0, 0, 0);
            Due.is("register code", mill.told(1), x == 7 ? 4 : 5);
        }
        // A call's own STEPS count, and what it returns takes one more in register code: 77, NUMBER, 0f, 0a, 0f.
        FileMaker maker = new FileMaker();
        int call = maker.own("g", "()I");
        mill = Mills.with(maker.method("f", "()I", 1, 0, String.format("b800%02x ac", call)).method("g", "()I", 1, 0, "03 ac").file());
        runIs(mill, 0, 0, 1, 0);
        Due.is("stack code", mill.told(1), 4);
        runIs(mill, 1, 0, 1, 0);
        Due.is("register code", mill.told(1), 5);
        for (int n = 1; n <= 4; n++) {
            Due.is("run(1, 0, " + n + ")", mill.run(1, 0, n), -7);
            Due.is("told(2)", mill.told(2), 2);
        }
    }

    /** The instruction that ends in an EXCEPTION is begun, so it is a STEP; with one fewer it is not reached. */
    private static void stepsToAnException() {
        String[] codes = {"04 03 6c 57 b1", "04 03 70 57 b1", "03 bc0a 03 2e 57 b1", "01 03 2e 57 b1", "01 03 03 4f b1", "01 be 57 b1",
            "02 bc0a 57 b1", "11 07cf bc0a 57 b1"};
        int[] answers = {-1, -1, -2, -3, -3, -3, -4, -6};
        int[] steps = {3, 3, 4, 3, 4, 2, 2, 2};
        for (int i = 0; i < codes.length; i++) {
            for (int kind = 0; kind < 2; kind++) {
                RegisterMill mill = Mills.with(FileMaker.one("()V", 3, 0, codes[i]));
                Due.is(codes[i], mill.run(kind, 0, steps[i]), answers[i]);
                Due.is("told(1)", mill.told(1), steps[i]);
                Due.is("told(0)", mill.told(0), 0);
                Due.is(codes[i], mill.run(kind, 0, 100000), answers[i]);
                Due.is("told(1)", mill.told(1), steps[i]);
                Due.is(codes[i], mill.run(kind, 0, steps[i] - 1), -7);
                Due.is("told(1)", mill.told(1), steps[i] - 1);
            }
        }
    }

    private static void mostSteps() {
        RegisterMill mill = Mills.with(FileMaker.one("(I)V", 1, 1, "84 00ff 1a 9a fffc b1"));
        for (int kind = 0; kind < 2; kind++) {
            // Three STEPS a round and b1, with a MOVE before in register code.
            mill.arg(0, 33333 - kind);
            int needed = 3 * (33333 - kind) + 1 + kind;
            Due.is("all STEPS", mill.run(kind, 0, 100000), 0);
            Due.is("told(1)", mill.told(1), needed);
            Due.is("just enough", mill.run(kind, 0, needed), 0);
            Due.is("one too few", mill.run(kind, 0, needed - 1), -7);
            mill.arg(0, 33334);
            Due.is("more than all", mill.run(kind, 0, 100000), -7);
            Due.is("told(1)", mill.told(1), 100000);
            Due.is("refused", mill.run(kind, 0, 100001), -8);
            Due.is("told(1)", mill.told(1), 100000);
        }
    }

    private static void refusedRuns() {
        RegisterMill mill = Mills.with(FileMaker.one("()I", 1, 0, "08 ac"));
        runIs(mill, 0, 0, 1, 5);
        for (int wrong : new int[] {MIN, -1, 2, 3, MAX}) {
            Due.is("kind " + wrong, mill.run(wrong, 0, 10), -8);
            Due.is("METHOD " + (wrong == 2 ? 1 : wrong), mill.run(0, wrong == 2 ? 1 : wrong, 10), -8);
            Due.is("METHOD " + (wrong == 2 ? 1 : wrong), mill.run(1, wrong == 2 ? 1 : wrong, 10), -8);
        }
        for (int n : new int[] {MIN, -1, 100001, MAX}) {
            Due.is("n " + n, mill.run(0, 0, n), -8);
            Due.is("n " + n, mill.run(1, 0, n), -8);
        }
        Due.is("told(0)", mill.told(0), 5);
        Due.is("told(1)", mill.told(1), 2);
        Due.is("told(2)", mill.told(2), 1);
        for (int kind = 0; kind < 2; kind++) {
            for (int n : new int[] {0, 1, 100000}) {
                Due.is("n " + n, mill.run(kind, 0, n), n < 2 ? -7 : 1);
            }
        }
    }

    private static void whatIsArrayForArguments() {
        // Each of eight arguments, an array in turn: null and each array, not one more.
        for (int i = 0; i < 8; i++) {
            String descriptor = "(" + "I".repeat(i) + "[I" + "I".repeat(7 - i) + ")[I";
            RegisterMill mill = Mills.with(FileMaker.one(descriptor, 1, 8, String.format("19%02x b0", i)));
            for (int k = 0; k < 8; k++) {
                mill.arg(k, -77);
            }
            for (int arrays = 0; arrays <= 2; arrays++) {
                for (int v : new int[] {MIN, -1, 0, 1, 2, 3, MAX}) {
                    mill.arg(i, v);
                    boolean fits = v >= 0 && v <= arrays;
                    for (int kind = 0; kind < 2; kind++) {
                        Due.is("argument " + i + " is " + v, mill.run(kind, 0, 100), fits ? 2 : -8);
                        if (fits) {
                            Due.is("told(0)", mill.told(0), v);
                        }
                    }
                }
                mill.make(1);
            }
        }
        // What no argument of the METHOD is may be whatever, and so may an int.
        RegisterMill mill = Mills.with(FileMaker.one("([I)V", 0, 1, "b1"));
        mill.arg(1, 12345);
        bothAre(mill, 0, 0, 0);
        // Arrays that clear() took are none.
        mill.make(1);
        mill.arg(0, 1);
        bothAre(mill, 0, 0, 0);
        mill.clear();
        mill.arg(0, 1);
        Due.is("behind clear()", mill.run(0, 0, 10), -8);
        Due.is("behind clear()", mill.run(1, 0, 10), -8);
    }

    private static void nothingOfEarlierCalls() {
        // FAULT 3 lets no code load a LOCAL before it stores there, so that the others are 0 cannot be seen by itself;
        // what can be seen is that a call finds its arguments and nothing that an earlier one left.
        FileMaker maker = new FileMaker();
        int fill = maker.own("fill", "(II)I");
        int empty = maker.own("empty", "(I)I");
        maker.method("f", "()I", 3, 0, String.format("08 08 b800%02x 57 03 b800%02x ac", fill, empty));
        maker.method("fill", "(II)I", 3, 6, "08 3d 08 3e 08 3604 08 3605 08 08 60 ac");
        maker.method("empty", "(I)I", 2, 6, "1a 84 0001 1a 60 ac");
        bothAre(Mills.with(maker.file()), 0, 1, 1);
    }

    private static void argumentsKeepTheirOrder() {
        // Eight passed on in a call: the first one the lowest; ints and arrays between each other.
        FileMaker maker = new FileMaker();
        int g = maker.own("g", "(I[II[IIIII)I");
        maker.method("f", "(I[II[IIIII)I", 9, 8, String.format("1064 1a 2b 1c 2d 1504 1505 1506 1507 b800%02x 60 ac", g));
        maker.method("g", "(I[II[IIIII)I", 3, 8, "2b 1a 2e 2d 1c 2e 60 1504 60 1505 60 1506 60 1507 64 ac");
        RegisterMill mill = Mills.with(maker.file());
        mill.make(3);
        mill.make(3);
        mill.put(1, 2, 1000);
        mill.put(2, 1, 20000);
        int[] arguments = {2, 1, 1, 2, 300000, 4000000, 50000000, 7};
        for (int i = 0; i < 8; i++) {
            mill.arg(i, arguments[i]);
        }
        bothAre(mill, 0, 1, 100 + 1000 + 20000 + 300000 + 4000000 + 50000000 - 7);
    }

    private static void whatRunsLeave() {
        // Stores and new arrays before an EXCEPTION, before the last STEP and before a return stay.
        String begin = "2a 03 08 4f 04 bc0a 57";
        String[] ends = {"04 03 6c 57 b1", "a7 0000", "b1"};
        int[] answers = {-1, -7, 0};
        for (int i = 0; i < ends.length; i++) {
            for (int kind = 0; kind < 2; kind++) {
                RegisterMill mill = Mills.with(FileMaker.one("([I)V", 3, 1, begin + ends[i]));
                mill.make(1);
                mill.arg(0, 1);
                Due.is("run", mill.run(kind, 0, 1000), answers[i]);
                Due.is("get(1, 0)", mill.get(1, 0), 5);
                heapIs(mill, 6, 2);
                Due.is("get(2, 0)", mill.get(2, 0), 0);
                // 4 STEPS to the store, and a MOVE before it in register code: with one fewer nothing is stored.
                mill.put(1, 0, 7);
                Due.is("run", mill.run(kind, 0, 3 + kind), -7);
                Due.is("get(1, 0)", mill.get(1, 0), 7);
                Due.is("run", mill.run(kind, 0, 4 + kind), -7);
                Due.is("get(1, 0)", mill.get(1, 0), 5);
                heapIs(mill, 6, 2);
            }
        }
    }

    private static void whatIsTold() {
        FileMaker maker = new FileMaker().method("i", "(I)I", 1, 1, "1a ac").method("a", "([I)[I", 1, 1, "2a b0").method("v", "(I)V", 0, 1, "b1");
        maker.method("x", "(I)I", 2, 1, "04 1a 6c ac");
        RegisterMill mill = Mills.with(maker.file());
        for (int kind = 0; kind < 2; kind++) {
            for (int v : new int[] {MIN, -1, 1, MAX}) {
                mill.arg(0, v);
                runIs(mill, kind, 0, 1, v);
            }
            // 0 behind all that returned nothing: nothing, null, an EXCEPTION, STEPS that are done.
            mill.arg(0, 9);
            runIs(mill, kind, 2, 0, 0);
            mill.arg(0, 0);
            runIs(mill, kind, 1, 2, 0);
            mill.arg(0, 5);
            runIs(mill, kind, 0, 1, 5);
            mill.arg(0, 0);
            runIs(mill, kind, 3, -1, 0);
            mill.arg(0, 5);
            runIs(mill, kind, 0, 1, 5);
            Due.is("run", mill.run(kind, 0, 1), -7);
            Due.is("told(0)", mill.told(0), 0);
            runIs(mill, kind, 0, 1, 5);
            Due.is("refused", mill.run(kind, 9, 1), -8);
            Due.is("told(0)", mill.told(0), 5);
        }
    }
}
