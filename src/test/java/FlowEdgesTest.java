/**
 * Section 2 with FAULT 3, and promise 7: what each instruction takes, how much may lie on the stack, where the code
 * ends, and where ways meet; of each the last that is let through and the first that is not.
 */
public final class FlowEdgesTest {
    public static void main(String[] args) {
        takes();
        fullStack();
        fortyDeep();
        behindTheCode();
        returns();
        localsAsNeeded();
        stacksMeet();
        localsMeet();
        lookedAtFirst();
        whichMethod();
        firstState();
        Due.close();
    }

    /** What an instruction takes, the lowest first (? any), and how many it leaves. */
    private static final String[][] TAKES = {
        {"57", "?", "0"}, {"59", "?", "2"}, {"5a", "??", "3"}, {"5c", "??", "4"}, {"5f", "??", "2"},
        {"60", "II", "1"}, {"64", "II", "1"}, {"68", "II", "1"}, {"6c", "II", "1"}, {"70", "II", "1"}, {"78", "II", "1"}, {"7a", "II", "1"},
        {"7c", "II", "1"}, {"7e", "II", "1"}, {"80", "II", "1"}, {"82", "II", "1"}, {"74", "I", "1"}, {"91", "I", "1"}, {"92", "I", "1"},
        {"93", "I", "1"}, {"2e", "AI", "1"}, {"4f", "AII", "0"}, {"be", "A", "1"}, {"bc0a", "I", "1"},
        {"36 00", "I", "0"}, {"3b", "I", "0"}, {"3c", "I", "0"}, {"3d", "I", "0"}, {"3e", "I", "0"}, {"c4360000", "I", "0"},
        {"3a 00", "A", "0"}, {"4b", "A", "0"}, {"4c", "A", "0"}, {"4d", "A", "0"}, {"4e", "A", "0"}, {"c43a0000", "A", "0"},
        {"99 0003", "I", "0"}, {"9a 0003", "I", "0"}, {"9b 0003", "I", "0"}, {"9c 0003", "I", "0"}, {"9d 0003", "I", "0"}, {"9e 0003", "I", "0"},
        {"9f 0003", "II", "0"}, {"a0 0003", "II", "0"}, {"a1 0003", "II", "0"}, {"a2 0003", "II", "0"}, {"a3 0003", "II", "0"},
        {"a4 0003", "II", "0"}, {"a5 0003", "AA", "0"}, {"a6 0003", "AA", "0"}, {"c6 0003", "A", "0"}, {"c7 0003", "A", "0"},
        {"00", "", "0"}, {"a7 0003", "", "0"}, {"01", "", "1"}, {"02", "", "1"}, {"03", "", "1"}, {"08", "", "1"}, {"10 7f", "", "1"},
        {"11 7fff", "", "1"}
    };

    private static String push(String types) {
        return types.replace("I", "03").replace("A", "01");
    }

    private static String[] others(String types) {
        if (types.indexOf('?') >= 0) {
            return types.length() == 1 ? new String[] {"I", "A"} : new String[] {"II", "IA", "AI", "AA"};
        }
        return new String[] {types};
    }

    /** As it needs, with one more below, with one fewer, and each operand of the other kind. */
    private static void takes() {
        for (String[] one : TAKES) {
            for (String types : others(one[1])) {
                int n = types.length();
                int stack = Math.max(n, Integer.parseInt(one[2]));
                Mills.codeIs("()V", stack, 4, push(types) + one[0] + "b1", 0, 0);
                Mills.codeIs("()V", stack + 1, 4, "03" + push(types) + one[0] + "b1", 0, 0);
                Mills.codeIs("()V", stack + 1, 4, "01" + push(types) + one[0] + "b1", 0, 0);
                if (n > 0) {
                    Mills.codeIs("()V", stack + 1, 4, push(types.substring(1)) + one[0] + "b1", 3, n - 1);
                    Mills.codeIs("()V", stack + 1, 4, one[0] + "b1", 3, 0);
                }
                for (int i = 0; i < n && one[1].indexOf('?') < 0; i++) {
                    String wrong = types.substring(0, i) + (types.charAt(i) == 'I' ? "A" : "I") + types.substring(i + 1);
                    Mills.codeIs("()V", stack + 1, 4, push(wrong) + one[0] + "b1", 3, n);
                }
            }
        }
        // A switch takes an int; it stands at byte 3, where no byte is filled up.
        for (String way : new String[] {"ab 00000009 00000000", "aa 00000011 00000000 00000000 00000011"}) {
            Mills.codeIs("()V", 2, 0, "00 00 03" + way + "b1", 0, 0);
            Mills.codeIs("()V", 2, 0, "00 00 01" + way + "b1", 3, 3);
            Mills.codeIs("()V", 2, 0, "00 00 00" + way + "b1", 3, 3);
        }
        callTakes();
    }

    /** b8 with each number of arguments: all of them, one fewer, and each of the other kind. */
    private static void callTakes() {
        for (int n = 0; n <= 8; n++) {
            String types = "IAAIAIIA".substring(0, n);
            callIs(types, types, 0);
            if (n > 0) {
                callIs(types, types.substring(1), 3);
            }
            for (int i = 0; i < n; i++) {
                callIs(types, types.substring(0, i) + (types.charAt(i) == 'I' ? "A" : "I") + types.substring(i + 1), 3);
            }
        }
    }

    private static void callIs(String needed, String pushed, int kind) {
        FileMaker maker = new FileMaker();
        String descriptor = "(" + needed.replace("A", "[I") + ")V";
        int call = maker.own("g", descriptor);
        maker.method("f", "()V", 8, 0, push(pushed) + String.format("b800%02x b1", call));
        maker.method("g", descriptor, 0, 8, "b1");
        Mills.loadIs(pushed + " for " + descriptor, maker.file(), kind == 0 ? 2 : -3, kind == 0 ? -1 : maker.codePlace(0) + pushed.length());
    }

    /** Each instruction that leaves more than it takes, with as much room as it needs, and one cell less. */
    private static void fullStack() {
        String[] pushes = {"01", "02", "03", "04", "05", "06", "07", "08", "1005", "110005", "1500", "1901", "1a", "2b", "c4150000", "c4190001"};
        for (String one : pushes) {
            for (int stack : new int[] {1, 2, 39, 40}) {
                Mills.codeIs("(I[I)V", stack, 2, "03".repeat(stack - 1) + one + "b1", 0, 0);
                Mills.codeIs("(I[I)V", stack, 2, "03".repeat(stack) + one + "b1", 3, stack);
            }
            Mills.codeIs("(I[I)V", 0, 2, one + "b1", 3, 0);
        }
        for (int stack : new int[] {4, 39, 40}) {
            Mills.codeIs("()V", stack, 0, "03".repeat(stack - 1) + "59 b1", 0, 0);
            Mills.codeIs("()V", stack, 0, "03".repeat(stack) + "59 b1", 3, stack);
            Mills.codeIs("()V", stack, 0, "03".repeat(stack - 1) + "5a b1", 0, 0);
            Mills.codeIs("()V", stack, 0, "03".repeat(stack) + "5a b1", 3, stack);
            Mills.codeIs("()V", stack, 0, "03".repeat(stack - 2) + "5c b1", 0, 0);
            Mills.codeIs("()V", stack, 0, "03".repeat(stack - 1) + "5c b1", 3, stack - 1);
            Mills.codeIs("()V", stack, 0, "03".repeat(stack) + "5c b1", 3, stack);
            Mills.codeIs("()V", stack, 0, "03".repeat(stack) + "5f 60 b1", 0, 0);
        }
        // A call that returns something: of none it needs room, of one it has it.
        for (int stack : new int[] {1, 2, 40}) {
            for (int arguments = 0; arguments < 2; arguments++) {
                for (String type : new String[] {"V", "I", "[I"}) {
                    FileMaker maker = new FileMaker();
                    String descriptor = "(" + "I".repeat(arguments) + ")" + type;
                    int call = maker.own("g", descriptor);
                    maker.method("f", "()V", stack, 0, "03".repeat(stack) + String.format("b800%02x b1", call));
                    maker.method("g", descriptor, 1, 1, type.equals("V") ? "b1" : type.equals("I") ? "03 ac" : "01 b0");
                    boolean fits = arguments == 1 || type.equals("V");
                    Mills.loadIs(descriptor + " on a full stack", maker.file(), fits ? 2 : -3, fits ? -1 : maker.codePlace(0) + stack);
                }
            }
        }
    }

    /** The highest cell and the highest LOCAL, and what state() tells of them and of what is not there. */
    private static void fortyDeep() {
        RegisterMill mill = Mills.with(FileMaker.one("()V", 40, 40, "03 3627 01 3a26" + "0301".repeat(20) + "57 1527 b1"));
        int pc = 6 + 40;
        Due.is("depth", mill.state(0, pc, 0), 40);
        for (int i = 0; i < 40; i++) {
            Due.is("cell " + i, mill.state(0, pc, 60 + i), i % 2 == 0 ? 1 : 2);
            Due.is("LOCAL " + i, mill.state(0, pc, 10 + i), i == 39 ? 1 : i == 38 ? 2 : 0);
        }
        for (int what : new int[] {3, 9, 50, 59, 100, 101}) {
            Due.is("state(.., " + what + ")", mill.state(0, pc, what), -1);
        }
        Due.is("depth", mill.state(0, pc + 1, 0), 39);
        Due.is("the highest cell", mill.state(0, pc + 1, 98), 1);
        Due.is("above it", mill.state(0, pc + 1, 99), -1);
        Due.is("an int on it", mill.state(0, pc + 3, 99), 1);
        // The same cell has an array, then nothing, then an int: nothing of the array stays.
        mill = Mills.with(FileMaker.one("()V", 1, 1, "01 4b 03 3b b1"));
        int[] cells = {-1, 2, -1, 1, -1};
        int[] locals = {0, 0, 2, 2, 1};
        for (int at = 0; at < 5; at++) {
            Due.is("cell 0 at " + at, mill.state(0, at, 60), cells[at]);
            Due.is("LOCAL 0 at " + at, mill.state(0, at, 10), locals[at]);
        }
    }

    private static void behindTheCode() {
        String[] onward = {"00", "03", "01", "84 0001", "c4 84 0000 0001", "1a", "99 0000"};
        for (String one : onward) {
            String before = one.startsWith("99") ? "03 57 00 1a" : "00";
            String code = before + one;
            int pc = Bytes.of(before).length;
            if (one.startsWith("99")) {
                code = before + "99 fffc";
            }
            Mills.codeIs("(I)V", 1, 1, code, 3, pc);
            Mills.codeIs("(I)V", 1, 1, code + "b1", 0, 0);
        }
        // What does not go on may stand last; and what nothing reaches may go on behind the code.
        Mills.codeIs("()V", 1, 0, "b1", 0, 0);
        Mills.codeIs("()V", 1, 0, "00 a7 ffff", 0, 0);
        Mills.codeIs("()V", 1, 0, "00 00 03 ab fffffffd 00000000", 0, 0);
        Mills.codeIs("()V", 1, 0, "b1 00", 0, 0);
        Mills.codeIs("()V", 1, 0, "a7 0003 b1 57", 0, 0);
        Mills.codeIs("()I", 1, 0, "03 ac 57", 0, 0);
        // With all 300 bytes.
        Mills.codeIs("()V", 1, 0, "00".repeat(299) + "b1", 0, 0);
        Mills.codeIs("()V", 1, 0, "00".repeat(300), 3, 299);
        // Behind a call.
        FileMaker maker = new FileMaker();
        int call = maker.own("f", "()V");
        maker.method("f", "()V", 0, 0, String.format("b800%02x", call));
        Mills.loadIs("a call that is last", maker.file(), -3, maker.codePlace(0));
    }

    private static void returns() {
        String[] types = {"V", "I", "[I"};
        String[] ops = {"b1", "ac", "b0"};
        String[] pushes = {"00", "03", "01"};
        for (int type = 0; type < 3; type++) {
            for (int op = 0; op < 3; op++) {
                for (int push = 0; push < 3; push++) {
                    boolean fits = type == op && (type == 0 || type == push);
                    Mills.codeIs("()" + types[type], 1, 0, pushes[push] + ops[op], fits ? 0 : 3, 1);
                }
            }
            // What lies below may stay there.
            Mills.codeIs("()" + types[type], 3, 0, "01 03" + pushes[type] + ops[type], 0, 0);
        }
    }

    private static void localsAsNeeded() {
        // LOCALS 0: an int, 1: an array, 2: none, 3: none.
        String[] ints = {"15%02x 57", "c415%04x 57", "84%02x01", "c484%04x0001"};
        String[] arrays = {"19%02x 57", "c419%04x 57"};
        for (int local = 0; local < 4; local++) {
            for (String one : ints) {
                Mills.codeIs("(I[I)V", 1, 4, String.format(one, local) + "b1", local == 0 ? 0 : 3, 0);
            }
            for (String one : arrays) {
                Mills.codeIs("(I[I)V", 1, 4, String.format(one, local) + "b1", local == 1 ? 0 : 3, 0);
            }
            Mills.codeIs("(I[I)V", 1, 4, String.format("%02x 57 b1", 0x1a + local), local == 0 ? 0 : 3, 0);
            Mills.codeIs("(I[I)V", 1, 4, String.format("%02x 57 b1", 0x2a + local), local == 1 ? 0 : 3, 0);
            // What is stored there is what is there.
            Mills.codeIs("(I[I)V", 1, 4, String.format("03 %02x %02x 57 b1", 0x3b + local, 0x1a + local), 0, 0);
            Mills.codeIs("(I[I)V", 1, 4, String.format("03 %02x %02x 57 b1", 0x3b + local, 0x2a + local), 3, 2);
            Mills.codeIs("(I[I)V", 1, 4, String.format("01 %02x %02x 57 b1", 0x4b + local, 0x2a + local), 0, 0);
            Mills.codeIs("(I[I)V", 1, 4, String.format("01 %02x %02x 57 b1", 0x4b + local, 0x1a + local), 3, 2);
        }
        // The last of eight arguments, and the LOCAL behind it.
        Mills.codeIs("(IIIIIIII)V", 1, 9, "1507 57 b1", 0, 0);
        Mills.codeIs("(IIIIIIII)V", 1, 9, "1508 57 b1", 3, 0);
        Mills.codeIs("([I[I[I[I[I[I[I[I)V", 1, 9, "1907 57 b1", 0, 0);
        Mills.codeIs("([I[I[I[I[I[I[I[I)V", 1, 9, "1908 57 b1", 3, 0);
    }

    /** Two ways to one instruction: the FAULT is where the second comes from. */
    private static void stacksMeet() {
        // 0: 1a 99 to 8; 4: one, a7 to 9; 8: other; 9: b1, with as many on the stack or not.
        String[] ways = {"00", "03", "01"};
        for (String one : ways) {
            for (String other : ways) {
                Mills.codeIs("(I)V", 2, 1, "1a 990007" + one + "a70004" + other + "b1", one.equals(other) ? 0 : 3, 8);
                // The same with an array below.
                Mills.codeIs("(I)V", 3, 1, "01 1a 990007" + one + "a70004" + other + "b1", one.equals(other) ? 0 : 3, 9);
            }
        }
        // The lowest cell differs under 39 that are the same.
        Mills.codeIs("(I)V", 40, 1, "1a 990007 03 a70004 03" + "03".repeat(39) + "b1", 0, 0);
        Mills.codeIs("(I)V", 40, 1, "1a 990007 03 a70004 01" + "03".repeat(39) + "b1", 3, 8);
        // Back to the beginning, with more than lay there.
        Mills.codeIs("()V", 2, 0, "00 a7ffff", 0, 0);
        Mills.codeIs("()V", 2, 0, "03 a7ffff", 3, 1);
        Mills.codeIs("()V", 2, 0, "03 57 a7fffe", 0, 0);
        // Each distance of a switch: the default, the first and the last.
        for (int which = 0; which < 3; which++) {
            // 0: 03, 1: 00 00, 3: ab with two pairs, 28: b1, 29: 03 then 30: a7 to 28.
            int[] to = {25, 25, 25};
            Mills.codeIs("()V", 2, 0, "03 00 00" + String.format("ab %08x 00000002 00000001 %08x 00000002 %08x b1", to[0], to[1], to[2]), 0, 0);
            to[which] = -3;
            Mills.codeIs("()V", 2, 0, "03 00 00" + String.format("ab %08x 00000002 00000001 %08x 00000002 %08x b1", to[0], to[1], to[2]), 0, 0);
            to[which] = -2;
            Mills.codeIs("()V", 2, 0, "03 00 00" + String.format("ab %08x 00000002 00000001 %08x 00000002 %08x b1", to[0], to[1], to[2]), 3, 3);
        }
    }

    /** LOCALS that differ are none from there on; to load one is a FAULT at the load, not to load it is none. */
    private static void localsMeet() {
        String[] ways = {"00 00", "03 3c", "01 4c"};
        for (int one = 0; one < 3; one++) {
            for (int other = 0; other < 3; other++) {
                // 0: 1a 99 to 9; 4: one, a7 to 11; 9: other; 11: ..
                String code = "1a 990008" + ways[one] + "a70005" + ways[other];
                RegisterMill mill = Mills.with(FileMaker.one("(I)V", 1, 2, code + "b1"));
                Due.is("LOCAL 1 where " + one + " and " + other + " meet", mill.state(0, 11, 11), one == other ? one : 0);
                Mills.codeIs("(I)V", 1, 2, code + "1b 57 b1", one == 1 && other == 1 ? 0 : 3, 11);
                Mills.codeIs("(I)V", 1, 2, code + "2b 57 b1", one == 2 && other == 2 ? 0 : 3, 11);
            }
        }
        // What is none stays none, also when a third way has it again.
        String code = "1a 990008 033c a7000e 1a 990008 014c a70005 033c 00 b1";
        RegisterMill mill = Mills.with(FileMaker.one("(I)V", 1, 2, code));
        Due.is("LOCAL 1 where three ways meet", mill.state(0, 20, 11), 0);
        // A LOCAL is none only behind the place where the ways meet.
        Due.is("before it", mill.state(0, 6, 11), 1);
    }

    private static void lookedAtFirst() {
        // A jump back makes the beginning anew: looked at before what stands behind the jump, where 57 takes what is not there.
        Mills.codeIs("(II)V", 1, 2, "1a 57 01 4b 1b 99 fffb 57 b1", 3, 0);
        Mills.codeIs("(II)V", 1, 2, "03 57 01 4b 1b 99 fffb 57 b1", 3, 8);
        // The first in the code, not the one that was reached first: 0 goes to 7 before 4 is known.
        Mills.codeIs("(I)V", 1, 1, "1a 99 0006 57 b1 00 57 b1", 3, 4);
        Mills.codeIs("(I)V", 1, 1, "1a 99 0006 00 b1 00 57 b1", 3, 7);
        // LOCAL 1 is none in the second round; what needs it stands in the middle of the loop.
        Mills.codeIs("(IIII)V", 1, 4, "1d 57 1c 3e 1b 3d 01 4c 1a 9a fff7 b1", 3, 4);
        Mills.codeIs("(IIII)V", 1, 4, "1d 57 1a 9a fffd b1", 0, 0);
        // What only an unlooked STATE would tell: the loop is looked at again till nothing changes.
        RegisterMill mill = Mills.with(FileMaker.one("(III)V", 1, 3, "1a 57 01 4d 01 4c 1a 9a fff9 b1"));
        Due.is("LOCAL 1 at the beginning", mill.state(0, 0, 11), 0);
        Due.is("LOCAL 2 at the beginning", mill.state(0, 0, 12), 0);
        Due.is("LOCAL 0 at the beginning", mill.state(0, 0, 10), 1);
        Due.is("LOCAL 2 behind its store", mill.state(0, 4, 12), 2);
        Due.is("LOCAL 1 before its store", mill.state(0, 4, 11), 0);
        Due.is("LOCAL 1 at the end", mill.state(0, 10, 11), 2);
        // An instruction that goes to itself and changes what it is given.
        Mills.codeIs("(I)V", 0, 1, "a7 0000", 0, 0);
    }

    private static void whichMethod() {
        String[] codes = {"b1", "57 b1", "00"};
        for (int first = 0; first < 3; first++) {
            for (int second = 0; second < 3; second++) {
                FileMaker maker = new FileMaker().method("f", "()V", 0, 0, codes[first]).method("g", "()V", 0, 0, codes[second]);
                boolean right = first == 0 && second == 0;
                int place = right ? -1 : maker.codePlace(first != 0 ? 0 : 1);
                Mills.loadIs("FLOW " + first + " " + second, maker.file(), right ? 2 : -3, place);
            }
            // Behind all 2, wherever they are.
            FileMaker maker = new FileMaker().method("f", "()V", 0, 0, codes[first]).method("g", "()V", 0, 0, "b1 a7 0001");
            Mills.loadIs("2 before 3", maker.file(), -2, maker.codePlace(1) + 1);
        }
        FileMaker maker = new FileMaker();
        for (int m = 0; m < 7; m++) {
            maker.method("f" + m, "()V", 0, 0, "b1");
        }
        maker.method("last", "()V", 0, 0, "00");
        Mills.loadIs("the last of eight", maker.file(), -3, maker.codePlace(7));
    }

    private static void firstState() {
        RegisterMill mill = Mills.with(FileMaker.one("(I[II[II[II[I)V", 3, 10, "b1"));
        Due.is("depth", mill.state(0, 0, 0), 0);
        for (int i = 0; i < 10; i++) {
            Due.is("LOCAL " + i, mill.state(0, 0, 10 + i), i >= 8 ? 0 : i % 2 == 0 ? 1 : 2);
        }
        Due.is("LOCAL 10", mill.state(0, 0, 20), -1);
        Due.is("cell 0", mill.state(0, 0, 60), -1);
    }
}
