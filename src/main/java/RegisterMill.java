import java.util.Arrays;

/**
 * Reads files with stack code, makes register code of it and a file that holds that, and runs both.
 *
 * <p>All rows are made once, in constructors, and used again by every call, since what a whole run of
 * calls makes is bounded. No call throws: each thing read from a file is looked at before it is used.
 */
public final class RegisterMill {
    public static final int NONE = -1;

    private static final int TAPE_BYTES = 12000;
    private static final int FEED_BYTES = 20;
    private static final int MOST_CONSTANTS = 100;
    private static final int MOST_METHODS = 8;
    private static final int MOST_ARGUMENTS = 8;
    private static final int MOST_STACK = 40;
    private static final int MOST_LOCALS = 40;
    private static final int MOST_CODE = 300;
    /** A byte of stack code makes at most 6 units (5f of high registers), the arguments 16 more. */
    private static final int MOST_UNITS = 2400;
    private static final int MOST_FILE = 48000;
    /** Two names of types, a name and a shorty of each METHOD, V, I, [I are 21. */
    private static final int MOST_STRINGS = 32;
    private static final int MOST_REGISTERS = 2 + MOST_LOCALS + MOST_STACK + MOST_ARGUMENTS;
    private static final int HEAP_CELLS = 2000;
    private static final int CELLS_BESIDE = 2;
    private static final int MOST_CALLS = 32;
    private static final int MOST_STEPS = 100000;
    /** Far above what any flow needs: a bound that its loop can be seen to have. */
    private static final int MOST_LOOKS = 1000000;
    private static final long NO_INT = 1099511627776L;

    private static final int FILE_FAULT = 1;
    private static final int CODE_FAULT = 2;
    private static final int FLOW_FAULT = 3;

    private static final int NOTHING = 0;
    private static final int INT = 1;
    private static final int ARRAY = 2;

    /** What a step answers while the run is not over; no answer of run() is the same. */
    private static final int GOES_ON = 3;
    private static final int BY_ZERO = -1;
    private static final int NO_INDEX = -2;
    private static final int NULL_ARRAY = -3;
    private static final int LESS_THAN_NONE = -4;
    private static final int TOO_DEEP = -5;
    private static final int HEAP_FULL = -6;
    private static final int STEPS_DONE = -7;
    private static final int REFUSED = -8;

    private static final int TEXT_TAG = 0x01;
    private static final int INT_TAG = 0x03;
    private static final int TYPE_TAG = 0x07;
    private static final int METHOD_TAG = 0x0a;
    private static final int PAIR_TAG = 0x0c;

    // Stack code. Short forms are read as the long one of their kind: 1a as 15 with local 0, 08 as 10 with 5.
    private static final int NOP = 0x00;
    private static final int NULL = 0x01;
    private static final int NUMBER = 0x10;
    private static final int NUMBER_2 = 0x11;
    private static final int CONSTANT = 0x12;
    private static final int CONSTANT_2 = 0x13;
    private static final int LOAD_INT = 0x15;
    private static final int LOAD_ARRAY = 0x19;
    private static final int FROM_ARRAY = 0x2e;
    private static final int STORE_INT = 0x36;
    private static final int STORE_ARRAY = 0x3a;
    private static final int TO_ARRAY = 0x4f;
    private static final int POP = 0x57;
    private static final int DUP = 0x59;
    private static final int DUP_X1 = 0x5a;
    private static final int DUP_2 = 0x5c;
    private static final int SWAP = 0x5f;
    private static final int NEG = 0x74;
    private static final int ADD_TO_LOCAL = 0x84;
    private static final int TO_BYTE = 0x91;
    private static final int TO_CHAR = 0x92;
    private static final int TO_SHORT = 0x93;
    private static final int IF_ZERO = 0x99;
    private static final int IF_INTS = 0x9f;
    private static final int IF_SAME = 0xa5;
    private static final int IF_OTHER = 0xa6;
    private static final int GOTO = 0xa7;
    private static final int TABLE_SWITCH = 0xaa;
    private static final int LOOKUP_SWITCH = 0xab;
    private static final int RETURN_INT = 0xac;
    private static final int RETURN_ARRAY = 0xb0;
    private static final int RETURN_NOTHING = 0xb1;
    private static final int CALL = 0xb8;
    private static final int NEW_ARRAY = 0xbc;
    private static final int ARRAY_LENGTH = 0xbe;
    private static final int WIDE = 0xc4;
    private static final int IF_NULL = 0xc6;
    private static final int IF_NOT_NULL = 0xc7;
    private static final int INTS_IN_ARRAY = 0x0a;

    private static final int SWITCH_BYTES = 7;
    private static final int WIDE_BYTES = 8;
    private static final int MOST_CASES = 60;

    /** How many bytes an instruction takes, by opcode: 0 no such opcode, 7 a switch, 8 behind c4. */
    private static final int[] BYTES = {
        1, 1, 1, 1, 1, 1, 1, 1, 1, 0, 0, 0, 0, 0, 0, 0,
        2, 3, 2, 3, 0, 2, 0, 0, 0, 2, 1, 1, 1, 1, 0, 0,
        0, 0, 0, 0, 0, 0, 0, 0, 0, 0, 1, 1, 1, 1, 1, 0,
        0, 0, 0, 0, 0, 0, 2, 0, 0, 0, 2, 1, 1, 1, 1, 0,
        0, 0, 0, 0, 0, 0, 0, 0, 0, 0, 0, 1, 1, 1, 1, 1,
        0, 0, 0, 0, 0, 0, 0, 1, 0, 1, 1, 0, 1, 0, 0, 1,
        1, 0, 0, 0, 1, 0, 0, 0, 1, 0, 0, 0, 1, 0, 0, 0,
        1, 0, 0, 0, 1, 0, 0, 0, 1, 0, 1, 0, 1, 0, 1, 0,
        1, 0, 1, 0, 3, 0, 0, 0, 0, 0, 0, 0, 0, 0, 0, 0,
        0, 1, 1, 1, 0, 0, 0, 0, 0, 3, 3, 3, 3, 3, 3, 3,
        3, 3, 3, 3, 3, 3, 3, 3, 0, 0, 7, 7, 1, 0, 0, 0,
        1, 1, 0, 0, 0, 0, 0, 0, 3, 0, 0, 0, 2, 0, 1, 0,
        0, 0, 0, 0, 8, 0, 3, 3
    };

    private StackFile tape = new StackFile();
    private StackFile loaded = new StackFile();
    private int faultPlace = NONE;
    private final RegisterFile registerFile = new RegisterFile();
    private final Heap heap = new Heap();
    private final int[] arguments = new int[MOST_ARGUMENTS];
    private final StackRunner stackRunner = new StackRunner();
    private final RegisterRunner registerRunner = new RegisterRunner();
    private final Checker checker = new Checker();
    private int returned;
    private int steps;
    private int most;

    public RegisterMill() {
    }

    public int feed(int a, int b, int c, int d, int e) {
        if (tape.length > TAPE_BYTES - FEED_BYTES) {
            return NONE;
        }
        tape.addWord(a);
        tape.addWord(b);
        tape.addWord(c);
        tape.addWord(d);
        tape.addWord(e);
        return tape.length;
    }

    public int end(int n) {
        if (n < 0 || n > FEED_BYTES || tape.length < FEED_BYTES) {
            return NONE;
        }
        tape.length -= FEED_BYTES - n;
        return tape.length;
    }

    public int load() {
        tape.takeAll();
        tape.decodeMethods();
        tape.followMethods();
        int fault = tape.fault;
        faultPlace = tape.faultPlace;
        if (fault == 0) {
            // The tape becomes the file; the file that was there lends its rows to the next tape.
            StackFile before = loaded;
            loaded = tape;
            tape = before;
            registerFile.names.gather(loaded);
            for (int m = 0; m < loaded.methodCount; m++) {
                registerFile.codes[m].build(loaded, m, registerFile.names);
            }
            registerFile.write(loaded);
        }
        tape.length = 0;
        return fault == 0 ? loaded.methodCount : -fault;
    }

    public int place() {
        return faultPlace;
    }

    public int method(int m, int what) {
        if (!loaded.hasMethod(m)) {
            return NONE;
        }
        Method one = loaded.methods[m];
        if (what >= 10) {
            return what - 10 < one.arguments ? one.argumentTypes[what - 10] : NONE;
        }
        switch (what) {
            case 0: return one.arguments;
            case 1: return one.returns;
            case 2: return one.stack;
            case 3: return one.locals;
            case 4: return one.codeLength;
            case 5: return registerFile.names.numberOf[m];
            case 6: return one.registers();
            case 7: return registerFile.codes[m].count;
            case 8: return one.codePlace;
            case 9: return registerFile.unitsPlace(m);
            default: return NONE;
        }
    }

    public int state(int m, int pc, int what) {
        if (!loaded.hasMethod(m) || !loaded.methods[m].beginsAt(pc)) {
            return NONE;
        }
        if (what == 1) {
            return loaded.byteAt(loaded.methods[m].codePlace + pc);
        }
        Flow flow = loaded.methods[m].flow;
        if (!flow.reaches(pc)) {
            return NONE;
        }
        if (what == 0) {
            return flow.depths[pc];
        }
        if (what == 2) {
            return registerFile.codes[m].begins[pc];
        }
        if (what >= 10 && what - 10 < loaded.methods[m].locals) {
            return flow.localType(pc, what - 10);
        }
        if (what >= 60 && what - 60 < flow.depths[pc]) {
            return flow.stackType(pc, what - 60);
        }
        return NONE;
    }

    public int unit(int m, int i) {
        if (!loaded.hasMethod(m) || i < 0 || i >= registerFile.codes[m].count) {
            return NONE;
        }
        return registerFile.codes[m].units[i];
    }

    public int size() {
        return registerFile.length;
    }

    public int out(int i) {
        return i >= 0 && i < registerFile.length ? registerFile.byteAt(i) : NONE;
    }

    public int make(int n) {
        return heap.addArray(n);
    }

    public int length(int h) {
        return heap.isArray(h) ? heap.lengthOf(h) : NONE;
    }

    public long get(int h, int i) {
        return heap.trouble(h, i) == 0 ? heap.read(h, i) : NO_INT;
    }

    public int put(int h, int i, int v) {
        if (heap.trouble(h, i) != 0) {
            return NONE;
        }
        heap.write(h, i, v);
        return 1;
    }

    public int arg(int i, int v) {
        if (i < 0 || i >= MOST_ARGUMENTS) {
            return NONE;
        }
        arguments[i] = v;
        return 1;
    }

    public int run(int kind, int m, int n) {
        if (!loaded.hasMethod(m) || kind < 0 || kind > 1 || n < 0 || n > MOST_STEPS
                || !argumentsFit(loaded.methods[m])) {
            return REFUSED;
        }
        int answer;
        if (kind == 0) {
            answer = stackRunner.go(loaded, heap, m, arguments, n);
            returned = stackRunner.returned;
            steps = stackRunner.steps;
            most = stackRunner.most;
        } else {
            answer = registerRunner.go(registerFile, heap, registerFile.names.numberOf[m], arguments, n);
            returned = registerRunner.returned;
            steps = registerRunner.steps;
            most = registerRunner.most;
        }
        return answer;
    }

    private boolean argumentsFit(Method one) {
        for (int i = 0; i < one.arguments; i++) {
            if (one.argumentTypes[i] == ARRAY && arguments[i] != 0 && !heap.isArray(arguments[i])) {
                return false;
            }
        }
        return true;
    }

    public int told(int what) {
        switch (what) {
            case 0: return returned;
            case 1: return steps;
            case 2: return most;
            case 3: return heap.taken;
            case 4: return heap.count;
            default: return NONE;
        }
    }

    public int clear() {
        Arrays.fill(arguments, 0);
        return heap.empty();
    }

    public int check() {
        return loaded.methodCount == 0 || checker.allIsRight(loaded, registerFile) ? 1 : 0;
    }

    /** Which of + - * / rest and or xor shl shr ushr (0 .. 10) a stack opcode is, or NONE. */
    private static int sumOf(int kind) {
        switch (kind) {
            case 0x60: return 0;
            case 0x64: return 1;
            case 0x68: return 2;
            case 0x6c: return 3;
            case 0x70: return 4;
            case 0x7e: return 5;
            case 0x80: return 6;
            case 0x82: return 7;
            case 0x78: return 8;
            case 0x7a: return 9;
            case 0x7c: return 10;
            default: return NONE;
        }
    }

    /** Whether a sum of sumOf() has no answer for this second operand. */
    private static boolean dividesByZero(int sum, int y) {
        return (sum == 3 || sum == 4) && y == 0;
    }

    private static int reckon(int sum, int x, int y) {
        switch (sum) {
            case 0: return x + y;
            case 1: return x - y;
            case 2: return x * y;
            case 3: return y == 0 ? 0 : x / y;
            case 4: return y == 0 ? 0 : x % y;
            case 5: return x & y;
            case 6: return x | y;
            case 7: return x ^ y;
            case 8: return x << (y & 31);
            case 9: return x >> (y & 31);
            default: return x >>> (y & 31);
        }
    }

    /** Which of = &lt;&gt; &lt; &gt;= &gt; &lt;= (0 .. 5) a stack opcode asks, or NONE. */
    private static int questionOf(int kind) {
        if (kind >= IF_ZERO && kind < IF_INTS) {
            return kind - IF_ZERO;
        }
        if (kind >= IF_INTS && kind < IF_SAME) {
            return kind - IF_INTS;
        }
        if (kind == IF_SAME || kind == IF_NULL) {
            return 0;
        }
        return kind == IF_OTHER || kind == IF_NOT_NULL ? 1 : NONE;
    }

    private static boolean asksOfTwo(int kind) {
        return kind >= IF_INTS && kind <= IF_OTHER;
    }

    private static boolean holds(int question, int x, int y) {
        switch (question) {
            case 0: return x == y;
            case 1: return x != y;
            case 2: return x < y;
            case 3: return x >= y;
            case 4: return x > y;
            default: return x <= y;
        }
    }

    private static boolean isSwitch(int kind) {
        return kind == TABLE_SWITCH || kind == LOOKUP_SWITCH;
    }

    private static boolean isReturn(int kind) {
        return kind == RETURN_INT || kind == RETURN_ARRAY || kind == RETURN_NOTHING;
    }

    /** How many units a register instruction takes, 0 when section 3 makes none such. */
    private static int unitsOf(int op) {
        if (op >= 0x32 && op <= 0x3d || op >= 0x90 && op <= 0x9a) {
            return 2;
        }
        if (op >= 0xb0 && op <= 0xba || op >= 0x8d && op <= 0x8f) {
            return 1;
        }
        switch (op) {
            case 0x00: case 0x01: case 0x07: case 0x0a: case 0x0c: case 0x0e: case 0x0f:
            case 0x11: case 0x12: case 0x21: case 0x28: case 0x7b:
                return 1;
            case 0x02: case 0x08: case 0x13: case 0x15: case 0x23: case 0x29:
            case 0x44: case 0x4b: case 0xd8:
                return 2;
            case 0x14: case 0x2a: case 0x2b: case 0x2c: case 0x77:
                return 3;
            default:
                return 0;
        }
    }

    /** Section 1: the bytes of a tape, gone through once, and what they hold. */
    private static final class StackFile {
        final byte[] bytes = new byte[TAPE_BYTES];
        int length;
        private int at;
        int fault;
        int faultPlace;
        private final int[] tags = new int[MOST_CONSTANTS + 1];
        /** Where in the file a CONSTANT goes on behind its tag. */
        private final int[] contents = new int[MOST_CONSTANTS + 1];
        private int constants;
        /** Which of the METHODS a METHOD of the CONSTANTS is; NONE for all others. */
        private final int[] calls = new int[MOST_CONSTANTS + 1];
        int ownName;
        int aboveName;
        final Method[] methods = new Method[MOST_METHODS];
        int methodCount;

        StackFile() {
            for (int m = 0; m < MOST_METHODS; m++) {
                methods[m] = new Method();
            }
        }

        void addWord(int word) {
            for (int shift = 24; shift >= 0 && length < TAPE_BYTES; shift -= 8) {
                bytes[length] = (byte) (word >>> shift);
                length++;
            }
        }

        boolean hasMethod(int m) {
            return m >= 0 && m < methodCount;
        }

        int byteAt(int place) {
            return place >= 0 && place < length ? bytes[place] & 0xff : 0;
        }

        int halfAt(int place) {
            if (place < 0 || place > length - 2) {
                return 0;
            }
            return (bytes[place] & 0xff) << 8 | bytes[place + 1] & 0xff;
        }

        int wordAt(int place) {
            if (place < 0 || place > length - 4) {
                return 0;
            }
            return bytes[place] << 24 | (bytes[place + 1] & 0xff) << 16
                    | (bytes[place + 2] & 0xff) << 8 | bytes[place + 3] & 0xff;
        }

        /** Only the first FAULT counts; what is read behind it is not looked at. */
        void fail(int kind, int place) {
            if (fault == 0) {
                fault = kind;
                faultPlace = place;
            }
        }

        void takeAll() {
            at = 0;
            fault = 0;
            faultPlace = NONE;
            constants = 0;
            takeWithin(4, 0xcafebabeL, 0xcafebabeL);
            takeWithin(2, 0, 0);
            takeWithin(2, 0x31, 0x31);
            takeConstants();
            takeClass();
            int all = takeWithin(2, 1, MOST_METHODS);
            methodCount = 0;
            for (int m = 0; m < all && fault == 0; m++) {
                takeMethodHead(methods[m]);
                takeMethodAttributes(methods[m]);
                methodCount++;
            }
            takeAttributes();
            if (at < length) {
                fail(FILE_FAULT, at);
            }
        }

        private long take(int size) {
            if (fault != 0) {
                return 0;
            }
            if (size > length - at) {
                fail(FILE_FAULT, length);
                return 0;
            }
            long number = 0;
            for (int i = 0; i < size; i++) {
                number = number << 8 | byteAt(at + i);
            }
            at += size;
            return number;
        }

        private int takeWithin(int size, long low, long high) {
            int start = at;
            long number = take(size);
            if (number < low || number > high) {
                fail(FILE_FAULT, start);
            }
            return fault == 0 ? (int) number : 0;
        }

        private void skip(long howMany) {
            if (howMany > length - at) {
                fail(FILE_FAULT, length);
            }
            if (fault == 0) {
                at += (int) howMany;
            }
        }

        private void takeConstants() {
            int all = takeWithin(2, 2, MOST_CONSTANTS + 1) - 1;
            for (int i = 1; i <= all && fault == 0; i++) {
                takeConstant(i);
            }
            constants = fault == 0 ? all : 0;
            for (int i = 1; i <= constants && fault == 0; i++) {
                lookAtConstant(i);
            }
        }

        private void takeConstant(int i) {
            int start = at;
            int tag = (int) take(1);
            tags[i] = tag;
            contents[i] = at;
            switch (tag) {
                case TEXT_TAG: takeText(); break;
                case TYPE_TAG: take(2); break;
                case INT_TAG: case METHOD_TAG: case PAIR_TAG: take(4); break;
                default: fail(FILE_FAULT, start); break;
            }
        }

        private void takeText() {
            int howMany = (int) take(2);
            int start = at;
            skip(howMany);
            for (int i = start; i < start + howMany && fault == 0; i++) {
                if (byteAt(i) < 0x01 || byteAt(i) > 0x7f) {
                    fail(FILE_FAULT, i);
                }
            }
        }

        private void lookAtConstant(int i) {
            int place = contents[i];
            switch (tags[i]) {
                case TYPE_TAG:
                    needConstant(place, TEXT_TAG);
                    break;
                case METHOD_TAG:
                    needConstant(place, TYPE_TAG);
                    needConstant(place + 2, PAIR_TAG);
                    break;
                case PAIR_TAG:
                    needConstant(place, TEXT_TAG);
                    needConstant(place + 2, TEXT_TAG);
                    break;
                default:
                    break;
            }
        }

        private void needConstant(int place, int tag) {
            if (!isConstant(halfAt(place), tag)) {
                fail(FILE_FAULT, place);
            }
        }

        private boolean isConstant(int i, int tag) {
            return i >= 1 && i <= constants && tags[i] == tag;
        }

        /** Where a CONSTANT goes on behind its tag; behind the file, where all reads as 0, if there is none. */
        private int contentOf(int i) {
            return i >= 1 && i <= constants ? contents[i] : length;
        }

        private int takeConstantOf(int tag) {
            int start = at;
            int i = (int) take(2);
            if (!isConstant(i, tag)) {
                fail(FILE_FAULT, start);
            }
            return i;
        }

        private void takeClass() {
            takeWithin(2, 0x21, 0x21);
            ownName = takeTypeName();
            int start = at;
            aboveName = takeTypeName();
            if (fault == 0 && sameText(ownName, aboveName)) {
                fail(FILE_FAULT, start);
            }
            takeWithin(2, 0, 0);
            takeWithin(2, 0, 0);
        }

        private int takeTypeName() {
            int start = at;
            int name = halfAt(contentOf(takeConstantOf(TYPE_TAG)));
            if (fault == 0 && !isTypeName(name)) {
                fail(FILE_FAULT, start);
            }
            return name;
        }

        int textLength(int text) {
            return halfAt(contentOf(text));
        }

        int textByte(int text, int i) {
            int place = contentOf(text);
            return i >= 0 && i < halfAt(place) ? byteAt(place + 2 + i) : 0;
        }

        private boolean sameText(int one, int other) {
            int place = contentOf(one);
            int otherPlace = contentOf(other);
            // How many bytes they have is the first thing that stands there, so it is compared, too.
            int all = 2 + halfAt(place);
            boolean same = true;
            for (int i = 0; i < all && same; i++) {
                same = byteAt(place + i) == byteAt(otherPlace + i);
            }
            return same;
        }

        private static boolean isNameByte(int b) {
            return b >= 'a' && b <= 'z' || b >= 'A' && b <= 'Z' || b >= '0' && b <= '9' || b == '_' || b == '$';
        }

        private boolean isTypeName(int text) {
            int all = textLength(text);
            boolean right = all >= 1 && all <= 40;
            // A / may stand only between two other bytes, so none stands behind another one or at an end.
            boolean slashMay = false;
            for (int i = 0; i < all && right; i++) {
                boolean slash = textByte(text, i) == '/';
                right = slash ? slashMay && i < all - 1 : isNameByte(textByte(text, i));
                slashMay = !slash;
            }
            return right;
        }

        private boolean isMethodName(int text) {
            int all = textLength(text);
            boolean right = all >= 1 && all <= 30;
            for (int i = 0; i < all && right; i++) {
                right = isNameByte(textByte(text, i));
            }
            return right;
        }

        private boolean isCode(int text) {
            return textLength(text) == 4 && textByte(text, 0) == 'C' && textByte(text, 1) == 'o'
                    && textByte(text, 2) == 'd' && textByte(text, 3) == 'e';
        }

        private void takeMethodHead(Method one) {
            takeWithin(2, 9, 9);
            int start = at;
            one.name = takeConstantOf(TEXT_TAG);
            if (fault == 0 && !isMethodName(one.name)) {
                fail(FILE_FAULT, start);
            }
            start = at;
            one.descriptor = takeConstantOf(TEXT_TAG);
            if (fault == 0 && (!one.takeDescriptor(this) || findMethod(one.name, one.descriptor) != NONE)) {
                fail(FILE_FAULT, start);
            }
        }

        private int findMethod(int name, int descriptor) {
            for (int m = 0; m < methodCount; m++) {
                if (sameText(methods[m].name, name) && sameText(methods[m].descriptor, descriptor)) {
                    return m;
                }
            }
            return NONE;
        }

        private void takeMethodAttributes(Method one) {
            int start = at;
            int all = (int) take(2);
            boolean found = false;
            for (int i = 0; i < all && fault == 0; i++) {
                int nameStart = at;
                int name = takeConstantOf(TEXT_TAG);
                if (!isCode(name)) {
                    skip(take(4));
                } else if (found) {
                    fail(FILE_FAULT, nameStart);
                } else {
                    takeCodeAttribute(one);
                    found = true;
                }
            }
            if (!found) {
                fail(FILE_FAULT, start);
            }
        }

        private void takeCodeAttribute(Method one) {
            int start = at;
            long told = take(4);
            if (told > length - at) {
                fail(FILE_FAULT, length);
            }
            int first = at;
            one.stack = takeWithin(2, 0, MOST_STACK);
            int localsStart = at;
            one.locals = takeWithin(2, 0, MOST_LOCALS);
            if (one.locals < one.arguments) {
                fail(FILE_FAULT, localsStart);
            }
            one.codeLength = takeWithin(4, 1, MOST_CODE);
            one.codePlace = at;
            skip(one.codeLength);
            takeWithin(2, 0, 0);
            takeAttributes();
            if (at - first != told) {
                fail(FILE_FAULT, start);
            }
        }

        private void takeAttributes() {
            int all = (int) take(2);
            for (int i = 0; i < all && fault == 0; i++) {
                takeConstantOf(TEXT_TAG);
                skip(take(4));
            }
        }

        void decodeMethods() {
            for (int i = 1; i <= constants && fault == 0; i++) {
                calls[i] = isConstant(i, METHOD_TAG) ? findCalled(contents[i]) : NONE;
            }
            for (int m = 0; m < methodCount && fault == 0; m++) {
                int wrong = methods[m].decode(this);
                if (wrong != NONE) {
                    fail(CODE_FAULT, methods[m].codePlace + wrong);
                }
            }
        }

        void followMethods() {
            for (int m = 0; m < methodCount && fault == 0; m++) {
                int wrong = methods[m].flow.follow(this, methods[m]);
                if (wrong != NONE) {
                    fail(FLOW_FAULT, methods[m].codePlace + wrong);
                }
            }
        }

        boolean isInt(int constant) {
            return isConstant(constant, INT_TAG);
        }

        int intOf(int constant) {
            return wordAt(contentOf(constant));
        }

        private int findCalled(int place) {
            int type = halfAt(place);
            int pair = contentOf(halfAt(place + 2));
            return sameText(halfAt(contentOf(type)), ownName) ? findMethod(halfAt(pair), halfAt(pair + 2)) : NONE;
        }

        int calledBy(int constant) {
            return constant >= 1 && constant <= constants ? calls[constant] : NONE;
        }
    }

    /** A METHOD of a STACK FILE, its code taken apart by instructions. */
    private static final class Method {
        int name;
        int descriptor;
        int arguments;
        final int[] argumentTypes = new int[MOST_ARGUMENTS];
        int returns;
        int stack;
        int locals;
        int codePlace;
        int codeLength;
        final int[] kinds = new int[MOST_CODE];
        /** A number, a local, where a distance goes to, a METHOD, or where a switch's words begin. */
        final int[] firsts = new int[MOST_CODE];
        /** What 84 adds, or how many distances a switch has beside the default. */
        final int[] seconds = new int[MOST_CODE];
        /** Where the next instruction begins; 0 at a byte where none begins. */
        final int[] nexts = new int[MOST_CODE];
        final Flow flow = new Flow();

        int registers() {
            return 2 + locals + stack + arguments;
        }

        boolean takeDescriptor(StackFile file) {
            arguments = 0;
            if (file.textByte(descriptor, 0) != '(') {
                return false;
            }
            int i = 1;
            while (arguments < MOST_ARGUMENTS && typeAt(file, i) != NOTHING) {
                argumentTypes[arguments] = typeAt(file, i);
                i += argumentTypes[arguments] == INT ? 1 : 2;
                arguments++;
            }
            // A ninth argument stands where the ) would.
            if (file.textByte(descriptor, i) != ')') {
                return false;
            }
            returns = typeAt(file, i + 1);
            if (returns == NOTHING && file.textByte(descriptor, i + 1) != 'V') {
                return false;
            }
            return file.textLength(descriptor) == i + (returns == ARRAY ? 3 : 2);
        }

        private int typeAt(StackFile file, int i) {
            if (file.textByte(descriptor, i) == 'I') {
                return INT;
            }
            return file.textByte(descriptor, i) == '[' && file.textByte(descriptor, i + 1) == 'I' ? ARRAY : NOTHING;
        }

        boolean beginsAt(int pc) {
            return pc >= 0 && pc < codeLength && nexts[pc] != 0;
        }

        /** Answers the first instruction with a FAULT, or NONE. */
        int decode(StackFile file) {
            int next = 0;
            for (int pc = 0; pc < codeLength; pc++) {
                nexts[pc] = 0;
                if (pc == next) {
                    next = decodeOne(file, pc);
                    if (next <= pc || next > codeLength) {
                        return pc;
                    }
                    nexts[pc] = next;
                }
            }
            for (int pc = 0; pc < codeLength; pc++) {
                if (nexts[pc] != 0 && !distancesFit(file, pc)) {
                    return pc;
                }
            }
            return NONE;
        }

        /** Answers where the next instruction begins, 0 for a FAULT. */
        private int decodeOne(StackFile file, int pc) {
            int place = codePlace + pc;
            int op = file.byteAt(place);
            int size = op < BYTES.length ? BYTES[op] : 0;
            note(pc, op, 0, 0);
            if (size == 0 || pc + (size < SWITCH_BYTES ? size : 2) > codeLength) {
                return 0;
            }
            boolean right = true;
            if (size == SWITCH_BYTES) {
                return decodeSwitch(file, pc);
            } else if (size == WIDE_BYTES) {
                return decodeWide(file, pc);
            } else if (op >= 0x02 && op <= CONSTANT_2) {
                right = decodeNumber(file, pc, op);
            } else if (op == LOAD_INT || op == LOAD_ARRAY || op == STORE_INT || op == STORE_ARRAY) {
                right = noteLocal(pc, op, file.byteAt(place + 1), 0);
            } else if (op == ADD_TO_LOCAL) {
                right = noteLocal(pc, op, file.byteAt(place + 1), (byte) file.byteAt(place + 2));
            } else if (op >= 0x1a && op <= 0x4e && op != FROM_ARRAY) {
                right = decodeShort(pc, op);
            } else if (questionOf(op) != NONE || op == GOTO) {
                note(pc, op, pc + (short) file.halfAt(place + 1), 0);
            } else if (op == CALL) {
                note(pc, op, file.calledBy(file.halfAt(place + 1)), 0);
                right = firsts[pc] != NONE;
            } else if (op == NEW_ARRAY) {
                right = file.byteAt(place + 1) == INTS_IN_ARRAY;
            }
            return right ? pc + size : 0;
        }

        private void note(int pc, int kind, int first, int second) {
            kinds[pc] = kind;
            firsts[pc] = first;
            seconds[pc] = second;
        }

        private boolean noteLocal(int pc, int kind, int local, int second) {
            note(pc, kind, local, second);
            return local < locals;
        }

        private boolean decodeNumber(StackFile file, int pc, int op) {
            int place = codePlace + pc + 1;
            if (op < NUMBER) {
                note(pc, NUMBER, op - 0x03, 0);
            } else if (op == NUMBER) {
                note(pc, NUMBER, (byte) file.byteAt(place), 0);
            } else if (op == NUMBER_2) {
                note(pc, NUMBER, (short) file.halfAt(place), 0);
            } else {
                int constant = op == CONSTANT ? file.byteAt(place) : file.halfAt(place);
                note(pc, NUMBER, file.isInt(constant) ? file.intOf(constant) : 0, 0);
                return file.isInt(constant);
            }
            return true;
        }

        /** The loads and stores whose opcode tells the local. */
        private boolean decodeShort(int pc, int op) {
            if (op <= 0x1d) {
                return noteLocal(pc, LOAD_INT, op - 0x1a, 0);
            }
            if (op <= 0x2d) {
                return noteLocal(pc, LOAD_ARRAY, op - 0x2a, 0);
            }
            if (op <= 0x3e) {
                return noteLocal(pc, STORE_INT, op - 0x3b, 0);
            }
            return noteLocal(pc, STORE_ARRAY, op - 0x4b, 0);
        }

        private int decodeWide(StackFile file, int pc) {
            int place = codePlace + pc;
            int op = file.byteAt(place + 1);
            int local = file.halfAt(place + 2);
            boolean right = false;
            int size = 4;
            if (op == LOAD_INT || op == LOAD_ARRAY || op == STORE_INT || op == STORE_ARRAY) {
                right = noteLocal(pc, op, local, 0);
            } else if (op == ADD_TO_LOCAL) {
                size = 6;
                right = noteLocal(pc, op, local, (short) file.halfAt(place + 4));
            }
            return right ? pc + size : 0;
        }

        private int decodeSwitch(StackFile file, int pc) {
            int words = pc + 4 & ~3;
            int op = file.byteAt(codePlace + pc);
            int cases = words + (op == TABLE_SWITCH ? 12 : 8);
            if (cases > codeLength) {
                return 0;
            }
            for (int i = pc + 1; i < words; i++) {
                if (file.byteAt(codePlace + i) != 0) {
                    return 0;
                }
            }
            long howMany = file.wordAt(codePlace + words + 4);
            if (op == TABLE_SWITCH) {
                // A low above high gives none or less, which a table may not have.
                howMany = (long) file.wordAt(codePlace + words + 8) - howMany + 1;
            }
            if (howMany < (op == TABLE_SWITCH ? 1 : 0) || howMany > MOST_CASES) {
                return 0;
            }
            note(pc, op, words, (int) howMany);
            int next = cases + seconds[pc] * (op == TABLE_SWITCH ? 4 : 8);
            return next <= codeLength && keysRise(file, pc) ? next : 0;
        }

        private boolean keysRise(StackFile file, int pc) {
            for (int i = 1; i < seconds[pc] && kinds[pc] == LOOKUP_SWITCH; i++) {
                if (switchKey(file, pc, i - 1) >= switchKey(file, pc, i)) {
                    return false;
                }
            }
            return true;
        }

        int switchKey(StackFile file, int pc, int i) {
            int words = codePlace + firsts[pc];
            return kinds[pc] == TABLE_SWITCH ? file.wordAt(words + 4) + i : file.wordAt(words + 8 + 8 * i);
        }

        /** Where distance i of a switch goes to; the default is NONE. */
        int switchTarget(StackFile file, int pc, int i) {
            int words = codePlace + firsts[pc];
            if (i == NONE) {
                return pc + file.wordAt(words);
            }
            return pc + file.wordAt(kinds[pc] == TABLE_SWITCH ? words + 12 + 4 * i : words + 12 + 8 * i);
        }

        private boolean distancesFit(StackFile file, int pc) {
            if (isSwitch(kinds[pc])) {
                boolean fit = true;
                for (int i = NONE; i < seconds[pc] && fit; i++) {
                    fit = beginsAt(switchTarget(file, pc, i));
                }
                return fit;
            }
            return questionOf(kinds[pc]) == NONE && kinds[pc] != GOTO || beginsAt(firsts[pc]);
        }
    }

    /** The STATES of a METHOD: a bit for each LOCAL and each cell of the stack, so that to meet is to AND. */
    private static final class Flow {
        /** How many lie on the stack; NONE without a STATE. */
        final int[] depths = new int[MOST_CODE];
        private final long[] stacks = new long[MOST_CODE];
        private final long[] intLocals = new long[MOST_CODE];
        private final long[] arrayLocals = new long[MOST_CODE];
        private final boolean[] changed = new boolean[MOST_CODE];
        private int firstChanged;
        private int depth;
        private long stack;
        private long ints;
        private long arrays;
        private boolean wrong;

        boolean reaches(int pc) {
            return depths[pc] != NONE;
        }

        int localType(int pc, int local) {
            if ((intLocals[pc] >>> local & 1) != 0) {
                return INT;
            }
            return (arrayLocals[pc] >>> local & 1) != 0 ? ARRAY : NOTHING;
        }

        int stackType(int pc, int cell) {
            return (stacks[pc] >>> cell & 1) != 0 ? ARRAY : INT;
        }

        /** Answers the instruction that has a FAULT, or NONE. */
        int follow(StackFile file, Method one) {
            begin(one);
            for (int looks = 0; looks < MOST_LOOKS; looks++) {
                int pc = takeFirstChanged(one.codeLength);
                if (pc == NONE) {
                    return NONE;
                }
                effect(file, one, pc);
                if (depth > one.stack) {
                    wrong = true;
                }
                if (!wrong) {
                    passOn(file, one, pc);
                }
                if (wrong) {
                    return pc;
                }
            }
            return NONE;
        }

        private void begin(Method one) {
            for (int pc = 0; pc < one.codeLength; pc++) {
                depths[pc] = NONE;
                changed[pc] = false;
            }
            wrong = false;
            depth = 0;
            stack = 0;
            ints = 0;
            arrays = 0;
            for (int i = 0; i < one.arguments; i++) {
                setLocal(i, one.argumentTypes[i]);
            }
            firstChanged = MOST_CODE;
            giveTo(one, 0);
        }

        private int takeFirstChanged(int codeLength) {
            for (int pc = firstChanged; pc < codeLength; pc++) {
                if (changed[pc]) {
                    changed[pc] = false;
                    firstChanged = pc + 1;
                    depth = depths[pc];
                    stack = stacks[pc];
                    ints = intLocals[pc];
                    arrays = arrayLocals[pc];
                    return pc;
                }
            }
            return NONE;
        }

        private int takeAny() {
            if (depth == 0) {
                wrong = true;
                return NOTHING;
            }
            depth--;
            int type = (stack >>> depth & 1) != 0 ? ARRAY : INT;
            stack &= ~(1L << depth);
            return type;
        }

        private void takeOne(int type) {
            if (takeAny() != type) {
                wrong = true;
            }
        }

        private void leave(int type) {
            if (type == ARRAY) {
                stack |= 1L << depth;
            }
            depth++;
        }

        private void needLocal(int local, int type) {
            if (((type == INT ? ints : arrays) >>> local & 1) == 0) {
                wrong = true;
            }
        }

        private void setLocal(int local, int type) {
            long bit = 1L << local;
            ints = type == INT ? ints | bit : ints & ~bit;
            arrays = type == ARRAY ? arrays | bit : arrays & ~bit;
        }

        private void effect(StackFile file, Method one, int pc) {
            int first = one.firsts[pc];
            switch (one.kinds[pc]) {
                case NULL: leave(ARRAY); break;
                case NUMBER: leave(INT); break;
                case LOAD_INT: needLocal(first, INT); leave(INT); break;
                case LOAD_ARRAY: needLocal(first, ARRAY); leave(ARRAY); break;
                case STORE_INT: takeOne(INT); setLocal(first, INT); break;
                case STORE_ARRAY: takeOne(ARRAY); setLocal(first, ARRAY); break;
                case ADD_TO_LOCAL: needLocal(first, INT); break;
                case POP: case DUP: case DUP_X1: case DUP_2: case SWAP: shuffle(one.kinds[pc]); break;
                case RETURN_INT: case RETURN_ARRAY: case RETURN_NOTHING: giveBack(one, one.kinds[pc]); break;
                case CALL: call(file.methods[first]); break;
                default: reckonWith(one.kinds[pc]); break;
            }
        }

        private void shuffle(int kind) {
            int y = takeAny();
            int x = kind == POP || kind == DUP ? y : takeAny();
            if (kind == DUP) {
                leave(y);
                leave(y);
            } else if (kind == SWAP || kind == DUP_X1) {
                leave(y);
                leave(x);
                if (kind == DUP_X1) {
                    leave(y);
                }
            } else if (kind == DUP_2) {
                leave(x);
                leave(y);
                leave(x);
                leave(y);
            }
        }

        private void giveBack(Method one, int kind) {
            int type = kind == RETURN_INT ? INT : kind == RETURN_ARRAY ? ARRAY : NOTHING;
            if (type != one.returns) {
                wrong = true;
            } else if (type != NOTHING) {
                takeOne(type);
            }
        }

        private void call(Method other) {
            for (int i = other.arguments - 1; i >= 0; i--) {
                takeOne(other.argumentTypes[i]);
            }
            if (other.returns != NOTHING) {
                leave(other.returns);
            }
        }

        /** The instructions that always take and leave the same. */
        private void reckonWith(int kind) {
            if (sumOf(kind) != NONE) {
                takeOne(INT);
                takeOne(INT);
                leave(INT);
            } else if (kind == IF_SAME || kind == IF_OTHER) {
                takeOne(ARRAY);
                takeOne(ARRAY);
            } else if (asksOfTwo(kind)) {
                takeOne(INT);
                takeOne(INT);
            } else if (kind == IF_NULL || kind == IF_NOT_NULL) {
                takeOne(ARRAY);
            } else if (questionOf(kind) != NONE || isSwitch(kind)) {
                takeOne(INT);
            } else if (kind != NOP && kind != GOTO) {
                changeTop(kind);
            }
        }

        private void changeTop(int kind) {
            if (kind == TO_ARRAY) {
                takeOne(INT);
            }
            takeOne(kind == ARRAY_LENGTH ? ARRAY : INT);
            if (kind == TO_ARRAY || kind == FROM_ARRAY) {
                takeOne(ARRAY);
            }
            if (kind != TO_ARRAY) {
                leave(kind == NEW_ARRAY ? ARRAY : INT);
            }
        }

        private void passOn(StackFile file, Method one, int pc) {
            int kind = one.kinds[pc];
            if (isReturn(kind)) {
                return;
            }
            if (isSwitch(kind)) {
                for (int i = NONE; i < one.seconds[pc] && !wrong; i++) {
                    giveTo(one, one.switchTarget(file, pc, i));
                }
                return;
            }
            if (kind != GOTO) {
                giveTo(one, one.nexts[pc]);
            }
            if (kind == GOTO || questionOf(kind) != NONE) {
                giveTo(one, one.firsts[pc]);
            }
        }

        private void giveTo(Method one, int to) {
            if (!one.beginsAt(to)) {
                wrong = true;
                return;
            }
            if (!reaches(to)) {
                depths[to] = depth;
                stacks[to] = stack;
                intLocals[to] = ints;
                arrayLocals[to] = arrays;
                markChanged(to);
            } else if (depths[to] != depth || stacks[to] != stack) {
                wrong = true;
            } else if ((intLocals[to] & ~ints) != 0 || (arrayLocals[to] & ~arrays) != 0) {
                intLocals[to] &= ints;
                arrayLocals[to] &= arrays;
                markChanged(to);
            }
        }

        private void markChanged(int pc) {
            changed[pc] = true;
            firstChanged = Math.min(firstChanged, pc);
        }
    }

    /** Section 3: the register code of a METHOD. */
    private static final class RegisterCode {
        final int[] units = new int[MOST_UNITS];
        int count;
        /** Where in the units an instruction begins; NONE without a STATE. */
        final int[] begins = new int[MOST_CODE];
        /** Where in the units that of an instruction lies which has a distance. */
        private final int[] jumpsAt = new int[MOST_CODE];
        private final int[] gotoUnits = new int[MOST_CODE];
        private final boolean[] padded = new boolean[MOST_CODE];
        int mostPassed;
        private StackFile file;
        private Method one;
        private Names names;
        private int firstCell;

        void build(StackFile from, int m, Names known) {
            file = from;
            one = from.methods[m];
            names = known;
            firstCell = 2 + one.locals;
            for (int pc = 0; pc < one.codeLength; pc++) {
                gotoUnits[pc] = 1;
                padded[pc] = false;
            }
            boolean grown = true;
            // A round makes something longer, and no instruction gets longer more than twice.
            for (int round = 0; round < 3 * MOST_CODE && grown; round++) {
                layOut();
                grown = grow();
            }
            for (int pc = 0; pc < one.codeLength; pc++) {
                if (hasUnits(pc) && isSwitch(one.kinds[pc])) {
                    addTable(pc);
                }
            }
            for (int pc = 0; pc < one.codeLength; pc++) {
                if (hasUnits(pc)) {
                    setDistance(pc);
                }
            }
        }

        private boolean hasUnits(int pc) {
            return one.beginsAt(pc) && one.flow.reaches(pc);
        }

        private void layOut() {
            count = 0;
            mostPassed = 0;
            for (int i = 0; i < one.arguments; i++) {
                move(2 + i, firstCell + one.stack + i, one.argumentTypes[i]);
            }
            for (int pc = 0; pc < one.codeLength; pc++) {
                begins[pc] = NONE;
                if (hasUnits(pc)) {
                    begins[pc] = count;
                    addInstruction(pc);
                }
            }
        }

        private void add(int unit) {
            if (count < MOST_UNITS) {
                units[count] = unit & 0xffff;
                count++;
            }
        }

        /** Formats 12x, 22t, 22c: two registers of four bits beside the opcode. */
        private void addSmall(int op, int a, int b) {
            add(b << 12 | a << 8 | op);
        }

        /** Format 11x and the first unit of all that tell one register of eight bits beside the opcode. */
        private void addBig(int op, int a) {
            add(a << 8 | op);
        }

        private void addThree(int op, int a, int b, int c) {
            addBig(op, a);
            add(c << 8 | b);
        }

        private void addWord(int word) {
            add(word);
            add(word >>> 16);
        }

        private void move(int to, int from, int type) {
            if (to < 16 && from < 16) {
                addSmall(type == ARRAY ? 0x07 : 0x01, to, from);
            } else {
                addBig(type == ARRAY ? 0x08 : 0x02, to);
                add(from);
            }
        }

        private void setNumber(int to, int value) {
            if (to < 16 && value >= -8 && value <= 7) {
                addSmall(0x12, to, value & 15);
            } else if (value == (short) value) {
                addBig(0x13, to);
                add(value);
            } else if ((value & 0xffff) == 0) {
                addBig(0x15, to);
                add(value >>> 16);
            } else {
                addBig(0x14, to);
                addWord(value);
            }
        }

        private void addInstruction(int pc) {
            int kind = one.kinds[pc];
            int first = one.firsts[pc];
            int fresh = firstCell + one.flow.depths[pc];
            int top = fresh - 1;
            switch (kind) {
                case NOP: case POP: break;
                case NULL: case NUMBER: setNumber(fresh, first); break;
                case LOAD_INT: move(fresh, 2 + first, INT); break;
                case LOAD_ARRAY: move(fresh, 2 + first, ARRAY); break;
                case STORE_INT: move(2 + first, top, INT); break;
                case STORE_ARRAY: move(2 + first, top, ARRAY); break;
                case ADD_TO_LOCAL: addToLocal(2 + first, one.seconds[pc]); break;
                case DUP: case DUP_X1: case DUP_2: case SWAP: shuffle(pc, fresh); break;
                case FROM_ARRAY: addThree(0x44, top - 1, top - 1, top); break;
                case TO_ARRAY: addThree(0x4b, top, top - 2, top - 1); break;
                case CALL: call(first, fresh); break;
                case RETURN_INT: addBig(0x0f, top); break;
                case RETURN_ARRAY: addBig(0x11, top); break;
                case RETURN_NOTHING: add(0x0e); break;
                case NEG: changeTop(0x7b, top, INT, INT); break;
                case TO_BYTE: changeTop(0x8d, top, INT, INT); break;
                case TO_CHAR: changeTop(0x8e, top, INT, INT); break;
                case TO_SHORT: changeTop(0x8f, top, INT, INT); break;
                case ARRAY_LENGTH: changeTop(0x21, top, ARRAY, INT); break;
                case NEW_ARRAY: changeTop(0x23, top, INT, ARRAY); break;
                default:
                    if (sumOf(kind) != NONE) {
                        reckon(sumOf(kind), top - 1, top);
                    } else {
                        jump(pc, top);
                    }
                    break;
            }
        }

        private void addToLocal(int local, int more) {
            if (more == (byte) more) {
                addThree(0xd8, local, local, more & 0xff);
            } else {
                setNumber(0, more);
                addThree(0x90, local, local, 0);
            }
        }

        private void shuffle(int pc, int fresh) {
            int y = fresh - 1;
            int yType = one.flow.stackType(pc, y - firstCell);
            if (one.kinds[pc] == DUP) {
                move(fresh, y, yType);
                return;
            }
            int x = fresh - 2;
            int xType = one.flow.stackType(pc, x - firstCell);
            if (one.kinds[pc] == DUP_2) {
                move(fresh, x, xType);
                move(fresh + 1, y, yType);
                return;
            }
            int beside = one.kinds[pc] == SWAP ? 0 : fresh;
            move(beside, y, yType);
            move(y, x, xType);
            move(x, beside, yType);
        }

        private void call(int m, int fresh) {
            Method other = file.methods[m];
            int result = fresh - other.arguments;
            mostPassed = Math.max(mostPassed, other.arguments);
            addBig(0x77, other.arguments);
            add(names.numberOf[m]);
            add(result);
            if (other.returns != NOTHING) {
                addBig(other.returns == ARRAY ? 0x0c : 0x0a, result);
            }
        }

        private void reckon(int sum, int x, int y) {
            if (x < 16 && y < 16) {
                addSmall(0xb0 + sum, x, y);
            } else {
                addThree(0x90 + sum, x, x, y);
            }
        }

        private void changeTop(int op, int top, int before, int after) {
            int at = top < 16 ? top : 0;
            if (at != top) {
                move(at, top, before);
            }
            addSmall(op, at, at);
            if (op == 0x23) {
                add(names.typeNumbers[ARRAY]);
            }
            if (at != top) {
                move(top, at, after);
            }
        }

        private void jump(int pc, int top) {
            int kind = one.kinds[pc];
            if (padded[pc]) {
                add(0);
            }
            int y = top;
            int x = top - 1;
            if (asksOfTwo(kind) && y >= 16) {
                int type = kind < IF_SAME ? INT : ARRAY;
                move(0, x, type);
                move(1, y, type);
                x = 0;
                y = 1;
            }
            jumpsAt[pc] = count;
            if (asksOfTwo(kind)) {
                addSmall(0x32 + questionOf(kind), x, y);
                add(0);
            } else if (isSwitch(kind)) {
                addBig(kind == TABLE_SWITCH ? 0x2b : 0x2c, top);
                addWord(0);
                addRoom(gotoUnits[pc]);
            } else if (kind == GOTO) {
                addRoom(gotoUnits[pc]);
            } else {
                addBig(0x38 + questionOf(kind), top);
                add(0);
            }
        }

        /** Room for a GOTO, which is written when all distances are known. */
        private void addRoom(int howMany) {
            for (int i = 0; i < howMany; i++) {
                add(0);
            }
        }

        private int gotoAt(int pc) {
            return isSwitch(one.kinds[pc]) ? jumpsAt[pc] + 3 : jumpsAt[pc];
        }

        private int gotoDistance(int pc) {
            int to = isSwitch(one.kinds[pc]) ? one.switchTarget(file, pc, NONE) : one.firsts[pc];
            return begins[to] - gotoAt(pc);
        }

        private boolean hasGoto(int pc) {
            return one.kinds[pc] == GOTO || isSwitch(one.kinds[pc]);
        }

        private boolean grow() {
            boolean grown = false;
            for (int pc = 0; pc < one.codeLength; pc++) {
                if (!hasUnits(pc)) {
                    continue;
                }
                if (hasGoto(pc)) {
                    int needed = neededUnits(gotoUnits[pc], gotoDistance(pc));
                    grown = grown || needed != gotoUnits[pc];
                    gotoUnits[pc] = needed;
                } else if (questionOf(one.kinds[pc]) != NONE && begins[one.firsts[pc]] == jumpsAt[pc]) {
                    padded[pc] = true;
                    grown = true;
                }
            }
            return grown;
        }

        private static int neededUnits(int has, int distance) {
            if (distance == 0) {
                return 3;
            }
            boolean held = has == 1 ? distance == (byte) distance : has == 3 || distance == (short) distance;
            return held ? has : has + 1;
        }

        private void addTable(int pc) {
            if (count % 2 != 0) {
                add(0);
            }
            int jump = jumpsAt[pc];
            int distance = count - jump;
            units[jump + 1] = distance & 0xffff;
            units[jump + 2] = distance >>> 16;
            boolean table = one.kinds[pc] == TABLE_SWITCH;
            add(table ? 0x0100 : 0x0200);
            add(one.seconds[pc]);
            for (int i = 0; i < (table ? 1 : one.seconds[pc]); i++) {
                addWord(one.switchKey(file, pc, i));
            }
            for (int i = 0; i < one.seconds[pc]; i++) {
                addWord(begins[one.switchTarget(file, pc, i)] - jump);
            }
        }

        private void setDistance(int pc) {
            if (hasGoto(pc)) {
                int at = gotoAt(pc);
                int distance = gotoDistance(pc);
                if (gotoUnits[pc] == 1) {
                    units[at] = (distance & 0xff) << 8 | 0x28;
                } else {
                    units[at] = gotoUnits[pc] == 2 ? 0x29 : 0x2a;
                    units[at + 1] = distance & 0xffff;
                    if (gotoUnits[pc] == 3) {
                        units[at + 2] = distance >>> 16;
                    }
                }
            } else if (questionOf(one.kinds[pc]) != NONE) {
                units[jumpsAt[pc] + 1] = begins[one.firsts[pc]] - jumpsAt[pc] & 0xffff;
            }
        }
    }

    /** The STRINGS, TYPES, PROTOS and METHODS of a REGISTER FILE, in their orders. */
    private static final class Names {
        private final byte[] pool = new byte[2048];
        private final int[] starts = new int[MOST_STRINGS];
        final int[] lengths = new int[MOST_STRINGS];
        int strings;
        private int poolEnd;
        /** How many bytes of a text are spelled behind the pool's end, neither kept nor looked for yet. */
        private int spelled;
        final int[] typeStrings = new int[8];
        int types;
        /** The TYPES of nothing, an int and an array, by what Method says for them; NONE if not needed. */
        final int[] typeNumbers = new int[3];
        int ownType;
        int aboveType;
        /** Of each PROTO a METHOD that has it. */
        final int[] protoMethods = new int[MOST_METHODS];
        int protos;
        final int[] protoOf = new int[MOST_METHODS];
        final int[] nameOf = new int[MOST_METHODS];
        final int[] shortyOf = new int[MOST_METHODS];
        final int[] numberOf = new int[MOST_METHODS];
        /** The METHOD of the STACK FILE that has a number in the REGISTER FILE. */
        final int[] methodAt = new int[MOST_METHODS];

        void gather(StackFile file) {
            gatherStrings(file);
            gatherTypes(file);
            gatherProtos(file);
            gatherMethods(file);
        }

        private void gatherStrings(StackFile file) {
            strings = 0;
            poolEnd = 0;
            spelled = 0;
            Arrays.fill(typeNumbers, NONE);
            spellTypeName(file, file.ownName);
            keep();
            spellTypeName(file, file.aboveName);
            keep();
            for (int m = 0; m < file.methodCount; m++) {
                Method one = file.methods[m];
                spellText(file, one.name);
                keep();
                spellShorty(one);
                keep();
                needType(one.returns);
                for (int i = 0; i < one.arguments; i++) {
                    needType(one.argumentTypes[i]);
                }
                if (makesArrays(one)) {
                    needType(ARRAY);
                }
            }
        }

        private static boolean makesArrays(Method one) {
            boolean makes = false;
            for (int pc = 0; pc < one.codeLength && !makes; pc++) {
                makes = one.beginsAt(pc) && one.flow.reaches(pc) && one.kinds[pc] == NEW_ARRAY;
            }
            return makes;
        }

        private void needType(int type) {
            // Which number it has is known only when all are there.
            typeNumbers[type] = 0;
            spellType(type);
            keep();
        }

        private void spell(int b) {
            if (poolEnd + spelled < pool.length) {
                pool[poolEnd + spelled] = (byte) b;
                spelled++;
            }
        }

        private void spellText(StackFile file, int text) {
            for (int i = 0; i < file.textLength(text); i++) {
                spell(file.textByte(text, i));
            }
        }

        private void spellTypeName(StackFile file, int text) {
            spell('L');
            spellText(file, text);
            spell(';');
        }

        private void spellType(int type) {
            if (type == ARRAY) {
                spell('[');
            }
            spell(type == NOTHING ? 'V' : 'I');
        }

        private static char shortLetter(int type) {
            return type == NOTHING ? 'V' : type == INT ? 'I' : 'L';
        }

        private void spellShorty(Method one) {
            spell(shortLetter(one.returns));
            for (int i = 0; i < one.arguments; i++) {
                spell(shortLetter(one.argumentTypes[i]));
            }
        }

        int stringByte(int string, int i) {
            return pool[starts[string] + i];
        }

        /** Less than 0, 0 or more, as the spelled text comes before, is, or comes behind a STRING. */
        private int compareSpelled(int string) {
            int shorter = Math.min(spelled, lengths[string]);
            for (int i = 0; i < shorter; i++) {
                if (pool[poolEnd + i] != stringByte(string, i)) {
                    return pool[poolEnd + i] - stringByte(string, i);
                }
            }
            return spelled - lengths[string];
        }

        private int rankOfSpelled() {
            int rank = 0;
            for (int i = 0; i < strings; i++) {
                if (compareSpelled(i) > 0) {
                    rank++;
                }
            }
            return rank;
        }

        private void keep() {
            int rank = rankOfSpelled();
            boolean there = rank < strings && compareSpelled(rank) == 0;
            if (!there && strings < starts.length) {
                for (int i = strings; i > rank; i--) {
                    starts[i] = starts[i - 1];
                    lengths[i] = lengths[i - 1];
                }
                starts[rank] = poolEnd;
                lengths[rank] = spelled;
                strings++;
                poolEnd += spelled;
            }
            spelled = 0;
        }

        private int findSpelled() {
            int rank = rankOfSpelled();
            spelled = 0;
            return rank;
        }

        private void gatherTypes(StackFile file) {
            spellTypeName(file, file.ownName);
            int own = findSpelled();
            spellTypeName(file, file.aboveName);
            int above = findSpelled();
            types = 0;
            addType(own);
            addType(above);
            for (int type = NOTHING; type <= ARRAY; type++) {
                if (typeNumbers[type] != NONE) {
                    spellType(type);
                    addType(findSpelled());
                }
            }
            ownType = rankOfType(own);
            aboveType = rankOfType(above);
            for (int type = NOTHING; type <= ARRAY; type++) {
                if (typeNumbers[type] != NONE) {
                    spellType(type);
                    typeNumbers[type] = rankOfType(findSpelled());
                }
            }
        }

        private int rankOfType(int string) {
            int rank = 0;
            for (int i = 0; i < types; i++) {
                if (typeStrings[i] < string) {
                    rank++;
                }
            }
            return rank;
        }

        private void addType(int string) {
            int rank = rankOfType(string);
            for (int i = types; i > rank; i--) {
                typeStrings[i] = typeStrings[i - 1];
            }
            typeStrings[rank] = string;
            types++;
        }

        private int compareProtos(Method one, Method other) {
            if (one.returns != other.returns) {
                return typeNumbers[one.returns] - typeNumbers[other.returns];
            }
            int fewer = Math.min(one.arguments, other.arguments);
            for (int i = 0; i < fewer; i++) {
                if (one.argumentTypes[i] != other.argumentTypes[i]) {
                    return typeNumbers[one.argumentTypes[i]] - typeNumbers[other.argumentTypes[i]];
                }
            }
            return one.arguments - other.arguments;
        }

        private int rankOfProto(StackFile file, int m) {
            int rank = 0;
            for (int i = 0; i < protos; i++) {
                if (compareProtos(file.methods[m], file.methods[protoMethods[i]]) > 0) {
                    rank++;
                }
            }
            return rank;
        }

        private void keepProto(StackFile file, int m) {
            int rank = rankOfProto(file, m);
            if (rank < protos && compareProtos(file.methods[m], file.methods[protoMethods[rank]]) == 0) {
                return;
            }
            for (int i = protos; i > rank; i--) {
                protoMethods[i] = protoMethods[i - 1];
            }
            protoMethods[rank] = m;
            protos++;
        }

        private void gatherProtos(StackFile file) {
            protos = 0;
            for (int m = 0; m < file.methodCount; m++) {
                keepProto(file, m);
            }
            for (int m = 0; m < file.methodCount; m++) {
                protoOf[m] = rankOfProto(file, m);
            }
        }

        private void gatherMethods(StackFile file) {
            for (int m = 0; m < file.methodCount; m++) {
                spellText(file, file.methods[m].name);
                nameOf[m] = findSpelled();
                spellShorty(file.methods[m]);
                shortyOf[m] = findSpelled();
            }
            for (int m = 0; m < file.methodCount; m++) {
                numberOf[m] = 0;
                for (int other = 0; other < file.methodCount; other++) {
                    if (comesBefore(other, m)) {
                        numberOf[m]++;
                    }
                }
                methodAt[numberOf[m]] = m;
            }
        }

        private boolean comesBefore(int m, int other) {
            return nameOf[m] < nameOf[other] || nameOf[m] == nameOf[other] && protoOf[m] < protoOf[other];
        }
    }

    /** Section 4: the REGISTER FILE, byte by byte. */
    private static final class RegisterFile {
        private static final int HEADER = 0x70;
        private static final int SUM_AT = 8;
        private static final int DIGEST_AT = 12;
        private static final int LENGTH_AT = 32;
        private static final int MAP_LINES = 10;

        private final byte[] bytes = new byte[MOST_FILE];
        int length;
        private int at;
        final Names names = new Names();
        final RegisterCode[] codes = new RegisterCode[MOST_METHODS];
        /** Where the code of a METHOD lies, by its number in this file. */
        private final int[] codesAt = new int[MOST_METHODS];
        private final int[] listsAt = new int[MOST_METHODS];
        private final int[] stringsAt = new int[MOST_STRINGS];
        private int methodCount;
        private int lists;
        private int firstList;
        private int dataAt;
        private int classDataAt;
        private int mapAt;
        final Digest digest = new Digest();

        RegisterFile() {
            for (int m = 0; m < MOST_METHODS; m++) {
                codes[m] = new RegisterCode();
            }
        }

        int byteAt(int place) {
            return place >= 0 && place < length ? bytes[place] & 0xff : 0;
        }

        int halfAt(int place) {
            if (place < 0 || place > length - 2) {
                return 0;
            }
            return bytes[place] & 0xff | (bytes[place + 1] & 0xff) << 8;
        }

        int wordAt(int place) {
            if (place < 0 || place > length - 4) {
                return 0;
            }
            return bytes[place] & 0xff | (bytes[place + 1] & 0xff) << 8
                    | (bytes[place + 2] & 0xff) << 16 | bytes[place + 3] << 24;
        }

        boolean hasNumber(int number) {
            return number >= 0 && number < methodCount;
        }

        int codeAt(int number) {
            return codesAt[number];
        }

        int unitsPlace(int m) {
            return codesAt[names.numberOf[m]] + 16;
        }

        private void addByte(int b) {
            if (at < MOST_FILE) {
                bytes[at] = (byte) b;
                at++;
            }
        }

        private void addHalf(int half) {
            addByte(half);
            addByte(half >>> 8);
        }

        private void addWord(int word) {
            addHalf(word);
            addHalf(word >>> 16);
        }

        private void addShort(int number) {
            int rest = number;
            // 32 bits are five groups of seven at the most.
            for (int i = 0; i < 5 && (i == 0 || rest != 0); i++) {
                addByte(rest >>> 7 == 0 ? rest : rest & 0x7f | 0x80);
                rest >>>= 7;
            }
        }

        private void fillUpToFour() {
            for (int i = 0; i < 3 && at % 4 != 0; i++) {
                addByte(0);
            }
        }

        void write(StackFile file) {
            methodCount = file.methodCount;
            dataAt = classesAt() + 32;
            at = dataAt;
            for (int number = 0; number < methodCount; number++) {
                writeCode(file, number);
            }
            writeLists(file);
            writeStrings();
            writeClassData();
            writeMap();
            length = at;
            at = HEADER;
            writeNumbered(file);
            at = 0;
            writeHeader();
            digest.reckon(this, LENGTH_AT);
            at = DIGEST_AT;
            for (int i = 0; i < 20; i++) {
                addByte(digest.byteOf(i));
            }
            at = SUM_AT;
            addWord(Digest.adler(this, DIGEST_AT));
        }

        private int typesAt() {
            return HEADER + 4 * names.strings;
        }

        private int protosAt() {
            return typesAt() + 4 * names.types;
        }

        private int methodsAt() {
            return protosAt() + 12 * names.protos;
        }

        private int classesAt() {
            return methodsAt() + 8 * methodCount;
        }

        private void writeCode(StackFile file, int number) {
            int m = names.methodAt[number];
            RegisterCode code = codes[m];
            fillUpToFour();
            codesAt[number] = at;
            addHalf(file.methods[m].registers());
            addHalf(file.methods[m].arguments);
            addHalf(code.mostPassed);
            addHalf(0);
            addWord(0);
            addWord(code.count);
            for (int i = 0; i < code.count; i++) {
                addHalf(code.units[i]);
            }
        }

        private void writeLists(StackFile file) {
            lists = 0;
            for (int proto = 0; proto < names.protos; proto++) {
                Method one = file.methods[names.protoMethods[proto]];
                listsAt[proto] = 0;
                if (one.arguments == 0) {
                    continue;
                }
                fillUpToFour();
                listsAt[proto] = at;
                firstList = lists == 0 ? at : firstList;
                lists++;
                addWord(one.arguments);
                for (int i = 0; i < one.arguments; i++) {
                    addHalf(names.typeNumbers[one.argumentTypes[i]]);
                }
            }
        }

        private void writeStrings() {
            for (int string = 0; string < names.strings; string++) {
                stringsAt[string] = at;
                addShort(names.lengths[string]);
                for (int i = 0; i < names.lengths[string]; i++) {
                    addByte(names.stringByte(string, i));
                }
                addByte(0);
            }
        }

        private void writeClassData() {
            classDataAt = at;
            addShort(0);
            addShort(0);
            addShort(methodCount);
            addShort(0);
            for (int number = 0; number < methodCount; number++) {
                // All numbers belong to this class, so each is one more than the one before.
                addShort(number == 0 ? 0 : 1);
                addShort(9);
                addShort(codesAt[number]);
            }
        }

        private void writeMap() {
            fillUpToFour();
            mapAt = at;
            addWord(lists > 0 ? MAP_LINES + 1 : MAP_LINES);
            writeLine(0, 1, 0);
            writeLine(1, names.strings, HEADER);
            writeLine(2, names.types, typesAt());
            writeLine(3, names.protos, protosAt());
            writeLine(5, methodCount, methodsAt());
            writeLine(6, 1, classesAt());
            writeLine(0x2001, methodCount, dataAt);
            if (lists > 0) {
                writeLine(0x1001, lists, firstList);
            }
            writeLine(0x2002, names.strings, stringsAt[0]);
            writeLine(0x2000, 1, classDataAt);
            writeLine(0x1000, 1, mapAt);
        }

        private void writeLine(int kind, int howMany, int first) {
            addHalf(kind);
            addHalf(0);
            addWord(howMany);
            addWord(first);
        }

        private void writeNumbered(StackFile file) {
            for (int string = 0; string < names.strings; string++) {
                addWord(stringsAt[string]);
            }
            for (int type = 0; type < names.types; type++) {
                addWord(names.typeStrings[type]);
            }
            for (int proto = 0; proto < names.protos; proto++) {
                int m = names.protoMethods[proto];
                addWord(names.shortyOf[m]);
                addWord(names.typeNumbers[file.methods[m].returns]);
                addWord(listsAt[proto]);
            }
            for (int number = 0; number < methodCount; number++) {
                int m = names.methodAt[number];
                addHalf(names.ownType);
                addHalf(names.protoOf[m]);
                addWord(names.nameOf[m]);
            }
            addWord(names.ownType);
            addWord(1);
            addWord(names.aboveType);
            addWord(0);
            addWord(0xffffffff);
            addWord(0);
            addWord(classDataAt);
            addWord(0);
        }

        private void writeHeader() {
            addWord(0x0a786564);
            addWord(0x00353330);
            at = LENGTH_AT;
            addWord(length);
            addWord(HEADER);
            addWord(0x12345678);
            addWord(0);
            addWord(0);
            addWord(mapAt);
            writeSection(names.strings, HEADER);
            writeSection(names.types, typesAt());
            writeSection(names.protos, protosAt());
            writeSection(0, 0);
            writeSection(methodCount, methodsAt());
            writeSection(1, classesAt());
            writeSection(length - dataAt, dataAt);
        }

        private void writeSection(int howMany, int where) {
            addWord(howMany);
            addWord(where);
        }
    }

    /** The two sums that a REGISTER FILE has of itself. */
    private static final class Digest {
        private static final int BLOCK = 64;
        private static final int ADLER_PRIME = 65521;

        private final int[] words = new int[80];
        private final int[] sum = new int[5];

        static int adler(RegisterFile file, int from) {
            int a = 1;
            int b = 0;
            for (int i = from; i < file.length; i++) {
                a = (a + file.byteAt(i)) % ADLER_PRIME;
                b = (b + a) % ADLER_PRIME;
            }
            return b << 16 | a;
        }

        int byteOf(int i) {
            return i >= 0 && i < 20 ? sum[i / 4] >>> 24 - i % 4 * 8 & 0xff : 0;
        }

        /** SHA-1 of all from a place on. */
        void reckon(RegisterFile file, int from) {
            sum[0] = 0x67452301;
            sum[1] = 0xefcdab89;
            sum[2] = 0x98badcfe;
            sum[3] = 0x10325476;
            sum[4] = 0xc3d2e1f0;
            int howMany = file.length - from;
            // A byte 80 and eight bytes of length stand behind the message.
            int blocks = (howMany + 8) / BLOCK + 1;
            for (int block = 0; block < blocks; block++) {
                for (int i = 0; i < 16; i++) {
                    int first = block * BLOCK + i * 4;
                    words[i] = 0;
                    for (int k = first; k < first + 4; k++) {
                        int b = k < howMany ? file.byteAt(from + k) : k == howMany ? 0x80 : 0;
                        words[i] = words[i] << 8 | b;
                    }
                }
                if (block == blocks - 1) {
                    words[15] = howMany * 8;
                }
                mixBlock();
            }
        }

        private static int turn(int word, int by) {
            return word << by | word >>> 32 - by;
        }

        private void mixBlock() {
            for (int i = 16; i < 80; i++) {
                words[i] = turn(words[i - 3] ^ words[i - 8] ^ words[i - 14] ^ words[i - 16], 1);
            }
            int a = sum[0];
            int b = sum[1];
            int c = sum[2];
            int d = sum[3];
            int e = sum[4];
            for (int i = 0; i < 80; i++) {
                int mixed;
                if (i < 20) {
                    mixed = (b & c | ~b & d) + 0x5a827999;
                } else if (i < 40) {
                    mixed = (b ^ c ^ d) + 0x6ed9eba1;
                } else if (i < 60) {
                    mixed = (b & c | b & d | c & d) + 0x8f1bbcdc;
                } else {
                    mixed = (b ^ c ^ d) + 0xca62c1d6;
                }
                int next = turn(a, 5) + mixed + e + words[i];
                e = d;
                d = c;
                c = turn(b, 30);
                b = a;
                a = next;
            }
            sum[0] += a;
            sum[1] += b;
            sum[2] += c;
            sum[3] += d;
            sum[4] += e;
        }
    }

    /** The arrays, numbered from 1. */
    private static final class Heap {
        private final int[] cells = new int[HEAP_CELLS];
        private final int[] starts = new int[HEAP_CELLS / CELLS_BESIDE + 1];
        private final int[] lengths = new int[HEAP_CELLS / CELLS_BESIDE + 1];
        int count;
        int taken;

        /** The new array's number, or an EXCEPTION. */
        int addArray(int n) {
            if (n < 0) {
                return LESS_THAN_NONE;
            }
            if (n > HEAP_CELLS - CELLS_BESIDE - taken) {
                return HEAP_FULL;
            }
            count++;
            starts[count] = taken;
            lengths[count] = n;
            for (int i = 0; i < n; i++) {
                cells[taken + i] = 0;
            }
            taken += n + CELLS_BESIDE;
            return count;
        }

        boolean isArray(int h) {
            return h >= 1 && h <= count;
        }

        int lengthOf(int h) {
            return isArray(h) ? lengths[h] : 0;
        }

        /** The EXCEPTION that an int of an array gives, or 0; null is looked at before the index. */
        int trouble(int h, int i) {
            if (!isArray(h)) {
                return NULL_ARRAY;
            }
            return i >= 0 && i < lengths[h] ? 0 : NO_INDEX;
        }

        int read(int h, int i) {
            return trouble(h, i) == 0 ? cells[starts[h] + i] : 0;
        }

        void write(int h, int i, int v) {
            if (trouble(h, i) == 0) {
                cells[starts[h] + i] = v;
            }
        }

        int empty() {
            int before = count;
            count = 0;
            taken = 0;
            return before;
        }
    }

    /** Runs stack code. */
    private static final class StackRunner {
        private static final int FRAME = MOST_LOCALS + MOST_STACK;

        private final int[] cells = new int[MOST_CALLS * FRAME];
        private final int[] callers = new int[MOST_CALLS];
        private final int[] callerPcs = new int[MOST_CALLS];
        private final int[] callerTops = new int[MOST_CALLS];
        private StackFile file;
        private Heap heap;
        private Method one;
        private int m;
        private int pc;
        /** Where the first cell above the stack lies. */
        private int top;
        private int level;
        int returned;
        int steps;
        int most;

        int go(StackFile from, Heap arrays, int first, int[] arguments, int n) {
            file = from;
            heap = arrays;
            returned = 0;
            steps = 0;
            most = 1;
            level = 0;
            enter(first);
            for (int i = 0; i < one.arguments; i++) {
                cells[i] = arguments[i];
            }
            while (steps < n) {
                steps++;
                int answer = step();
                if (answer != GOES_ON) {
                    return answer;
                }
            }
            return STEPS_DONE;
        }

        private int base() {
            return level * FRAME;
        }

        private void enter(int called) {
            m = called;
            one = file.methods[called];
            pc = 0;
            int base = base();
            for (int i = 0; i < FRAME; i++) {
                cells[base + i] = 0;
            }
            top = base + one.locals;
        }

        private void push(int value) {
            if (top < cells.length) {
                cells[top] = value;
                top++;
            }
        }

        private int pop() {
            if (top > 0) {
                top--;
            }
            return cells[top];
        }

        private int step() {
            int here = pc;
            int kind = one.kinds[here];
            int first = one.firsts[here];
            pc = one.nexts[here];
            switch (kind) {
                case NOP: break;
                case NULL: case NUMBER: push(first); break;
                case LOAD_INT: case LOAD_ARRAY: push(cells[base() + first]); break;
                case STORE_INT: case STORE_ARRAY: cells[base() + first] = pop(); break;
                case ADD_TO_LOCAL: cells[base() + first] += one.seconds[here]; break;
                case POP: case DUP: case DUP_X1: case DUP_2: case SWAP: shuffle(kind); break;
                case NEG: push(-pop()); break;
                case TO_BYTE: push((byte) pop()); break;
                case TO_CHAR: push((char) pop()); break;
                case TO_SHORT: push((short) pop()); break;
                case FROM_ARRAY: case TO_ARRAY: case NEW_ARRAY: case ARRAY_LENGTH: return useArray(kind);
                case GOTO: pc = first; break;
                case TABLE_SWITCH: case LOOKUP_SWITCH: pc = chosen(here, pop()); break;
                case RETURN_INT: return giveBack(INT, pop());
                case RETURN_ARRAY: return giveBack(ARRAY, pop());
                case RETURN_NOTHING: return giveBack(NOTHING, 0);
                case CALL: return call(first);
                default:
                    if (sumOf(kind) != NONE) {
                        return sumUp(sumOf(kind));
                    }
                    ask(kind, first);
                    break;
            }
            return GOES_ON;
        }

        private void shuffle(int kind) {
            int y = pop();
            int x = kind == POP || kind == DUP ? y : pop();
            if (kind == DUP) {
                push(y);
                push(y);
            } else if (kind == SWAP || kind == DUP_X1) {
                push(y);
                push(x);
                if (kind == DUP_X1) {
                    push(y);
                }
            } else if (kind == DUP_2) {
                push(x);
                push(y);
                push(x);
                push(y);
            }
        }

        private int sumUp(int sum) {
            int y = pop();
            int x = pop();
            if (dividesByZero(sum, y)) {
                return BY_ZERO;
            }
            push(reckon(sum, x, y));
            return GOES_ON;
        }

        private void ask(int kind, int to) {
            int y = asksOfTwo(kind) ? pop() : 0;
            if (holds(questionOf(kind), pop(), y)) {
                pc = to;
            }
        }

        private int useArray(int kind) {
            int value = kind == TO_ARRAY ? pop() : 0;
            int last = pop();
            if (kind == NEW_ARRAY) {
                int made = heap.addArray(last);
                if (made < 0) {
                    return made;
                }
                push(made);
                return GOES_ON;
            }
            if (kind == ARRAY_LENGTH) {
                if (!heap.isArray(last)) {
                    return NULL_ARRAY;
                }
                push(heap.lengthOf(last));
                return GOES_ON;
            }
            int array = pop();
            if (heap.trouble(array, last) != 0) {
                return heap.trouble(array, last);
            }
            if (kind == TO_ARRAY) {
                heap.write(array, last, value);
            } else {
                push(heap.read(array, last));
            }
            return GOES_ON;
        }

        private int chosen(int here, int value) {
            for (int i = 0; i < one.seconds[here]; i++) {
                if (one.switchKey(file, here, i) == value) {
                    return one.switchTarget(file, here, i);
                }
            }
            return one.switchTarget(file, here, NONE);
        }

        private int call(int called) {
            if (level == MOST_CALLS - 1) {
                return TOO_DEEP;
            }
            int passed = file.methods[called].arguments;
            int from = Math.max(0, top - passed);
            callers[level] = m;
            callerPcs[level] = pc;
            callerTops[level] = from;
            level++;
            most = Math.max(most, level + 1);
            enter(called);
            System.arraycopy(cells, from, cells, base(), passed);
            return GOES_ON;
        }

        private int giveBack(int type, int value) {
            if (level == 0) {
                returned = value;
                return type;
            }
            level--;
            m = callers[level];
            one = file.methods[m];
            pc = callerPcs[level];
            top = callerTops[level];
            if (type != NOTHING) {
                push(value);
            }
            return GOES_ON;
        }
    }

    /** Runs register code, from the bytes of its file. */
    private static final class RegisterRunner {
        private final int[] registers = new int[MOST_CALLS * MOST_REGISTERS];
        private final int[] callerPlaces = new int[MOST_CALLS];
        private RegisterFile file;
        private Heap heap;
        private int place;
        private int level;
        /** What the latest call gave back. */
        private int result;
        int returned;
        int steps;
        int most;

        int go(RegisterFile from, Heap arrays, int number, int[] arguments, int n) {
            file = from;
            heap = arrays;
            returned = 0;
            steps = 0;
            most = 1;
            level = 0;
            result = 0;
            enter(number);
            int code = file.codeAt(number);
            int passed = file.halfAt(code + 2);
            for (int i = 0; i < passed && i < MOST_ARGUMENTS; i++) {
                assign(file.halfAt(code) - passed + i, arguments[i]);
            }
            while (steps < n) {
                steps++;
                int answer = step();
                if (answer != GOES_ON) {
                    return answer;
                }
            }
            return STEPS_DONE;
        }

        private void enter(int number) {
            int base = level * MOST_REGISTERS;
            for (int i = 0; i < MOST_REGISTERS; i++) {
                registers[base + i] = 0;
            }
            place = file.codeAt(number) + 16;
        }

        private int valueOf(int register) {
            return register >= 0 && register < MOST_REGISTERS ? registers[level * MOST_REGISTERS + register] : 0;
        }

        private void assign(int register, int value) {
            if (register >= 0 && register < MOST_REGISTERS) {
                registers[level * MOST_REGISTERS + register] = value;
            }
        }

        private int step() {
            int here = place;
            int unit = file.halfAt(here);
            int op = unit & 0xff;
            int second = file.halfAt(here + 2);
            place = here + 2 * unitsOf(op);
            int big = unit >>> 8;
            int small = big & 15;
            int other = unit >>> 12;
            switch (op) {
                case 0x00: break;
                case 0x01: case 0x07: assign(small, valueOf(other)); break;
                case 0x02: case 0x08: assign(big, valueOf(second)); break;
                case 0x0a: case 0x0c: assign(big, result); break;
                case 0x0e: return giveBack(NOTHING, 0);
                case 0x0f: return giveBack(INT, valueOf(big));
                case 0x11: return giveBack(ARRAY, valueOf(big));
                case 0x12: assign(small, unit << 16 >> 28); break;
                case 0x13: assign(big, (short) second); break;
                case 0x14: assign(big, file.wordAt(here + 2)); break;
                case 0x15: assign(big, second << 16); break;
                case 0x21: return tellLength(small, valueOf(other));
                case 0x23: return makeArray(small, valueOf(other));
                case 0x28: place = here + 2 * (byte) big; break;
                case 0x29: place = here + 2 * (short) second; break;
                case 0x2a: place = here + 2 * file.wordAt(here + 2); break;
                case 0x2b: case 0x2c: choose(here, valueOf(big)); break;
                case 0x44: case 0x4b: return useArray(op, big, valueOf(second & 0xff), valueOf(second >>> 8));
                case 0x77: return call(second, file.halfAt(here + 4), big);
                case 0x7b: assign(small, -valueOf(other)); break;
                case 0x8d: assign(small, (byte) valueOf(other)); break;
                case 0x8e: assign(small, (char) valueOf(other)); break;
                case 0x8f: assign(small, (short) valueOf(other)); break;
                case 0xd8: assign(big, valueOf(second & 0xff) + (byte) (second >>> 8)); break;
                default: return sumOrAsk(here, unit, second);
            }
            return GOES_ON;
        }

        private int sumOrAsk(int here, int unit, int second) {
            int op = unit & 0xff;
            int small = unit >>> 8 & 15;
            int other = unit >>> 12;
            if (op >= 0xb0) {
                return sumUp(op - 0xb0, small, valueOf(small), valueOf(other));
            }
            if (op >= 0x90) {
                return sumUp(op - 0x90, unit >>> 8, valueOf(second & 0xff), valueOf(second >>> 8));
            }
            boolean yes = op < 0x38 ? holds(op - 0x32, valueOf(small), valueOf(other))
                    : holds(op - 0x38, valueOf(unit >>> 8), 0);
            if (yes) {
                place = here + 2 * (short) second;
            }
            return GOES_ON;
        }

        private int sumUp(int sum, int to, int x, int y) {
            if (dividesByZero(sum, y)) {
                return BY_ZERO;
            }
            assign(to, reckon(sum, x, y));
            return GOES_ON;
        }

        private int tellLength(int to, int array) {
            if (!heap.isArray(array)) {
                return NULL_ARRAY;
            }
            assign(to, heap.lengthOf(array));
            return GOES_ON;
        }

        private int makeArray(int to, int n) {
            int made = heap.addArray(n);
            if (made < 0) {
                return made;
            }
            assign(to, made);
            return GOES_ON;
        }

        private int useArray(int op, int register, int array, int i) {
            if (heap.trouble(array, i) != 0) {
                return heap.trouble(array, i);
            }
            if (op == 0x44) {
                assign(register, heap.read(array, i));
            } else {
                heap.write(array, i, valueOf(register));
            }
            return GOES_ON;
        }

        private void choose(int here, int value) {
            int table = here + 2 * file.wordAt(here + 2);
            int howMany = file.halfAt(table + 2);
            boolean keyed = file.halfAt(table) == 0x0200;
            for (int i = 0; i < howMany; i++) {
                int key = keyed ? file.wordAt(table + 4 + 4 * i) : file.wordAt(table + 4) + i;
                if (key == value) {
                    int distances = keyed ? table + 4 + 4 * howMany : table + 8;
                    place = here + 2 * file.wordAt(distances + 4 * i);
                    return;
                }
            }
        }

        private int call(int number, int first, int passed) {
            if (level == MOST_CALLS - 1) {
                return TOO_DEEP;
            }
            if (!file.hasNumber(number)) {
                return GOES_ON;
            }
            callerPlaces[level] = place;
            int from = level * MOST_REGISTERS + first;
            level++;
            most = Math.max(most, level + 1);
            enter(number);
            int to = file.halfAt(file.codeAt(number)) - passed;
            for (int i = 0; i < passed && from + i < registers.length; i++) {
                assign(to + i, registers[from + i]);
            }
            return GOES_ON;
        }

        private int giveBack(int type, int value) {
            if (level == 0) {
                returned = value;
                return type;
            }
            level--;
            place = callerPlaces[level];
            result = value;
            return GOES_ON;
        }
    }

    /**
     * Goes through the REGISTER FILE from its first byte to its last and compares it with the STACK FILE and with
     * the units that were made. Its code is followed, too: a register has a bit for "an int" and one for "an array",
     * a 0 has both, and where ways meet only what both have stays.
     */
    private static final class Checker {
        private static final int ROW = 4;
        private static final int MAP_TOLD_AT = 52;
        /** Where the header tells of the STRINGS; eight bytes for each of the sections, in this order. */
        private static final int SECTIONS_AT = 56;
        private static final int STRINGS = 0;
        private static final int TYPES = 1;
        private static final int PROTOS = 2;
        private static final int FIELDS = 3;
        private static final int METHODS = 4;
        private static final int CLASSES = 5;
        private static final int DATA = 6;
        /** How many bytes one of a section takes. */
        private static final int[] SIZES = {4, 4, 12, 8, 8, 32};

        private final long[] rows = new long[ROW * MOST_UNITS];
        private final long[] now = new long[ROW];
        private final boolean[] reached = new boolean[MOST_UNITS];
        private final boolean[] changed = new boolean[MOST_UNITS];
        private int firstChanged;
        private StackFile stackFile;
        private RegisterFile file;
        private Method one;
        private int firstUnit;
        private int units;
        private int registers;
        private int mostPassed;
        private boolean wrong;
        private int at;
        /** A bit for each that something needs, since none may be there that nothing needs. */
        private long usedStrings;
        private long usedTypes;
        private long usedProtos;
        /** The TYPE that each 23 tells; NONE as long as there was no 23. */
        private int arrayType;

        boolean allIsRight(StackFile from, RegisterFile made) {
            stackFile = from;
            file = made;
            wrong = false;
            usedStrings = 0;
            usedTypes = 0;
            usedProtos = 0;
            arrayType = NONE;
            lookAtHeader();
            lookAtSections();
            for (int m = 0; m < from.methodCount && !wrong; m++) {
                one = from.methods[m];
                int place = placeOf(METHODS, made.names.numberOf[m]);
                lookAtMethod(place);
                lookAtProto(made.halfAt(place + 2));
                lookAtCode(made.unitsPlace(m));
            }
            if (!wrong) {
                lookAtClass();
                lookAtUse();
                lookAtOrder();
                lookAtData();
                lookAtMap();
            }
            return !wrong;
        }

        private void needThat(boolean right) {
            wrong = wrong || !right;
        }

        private void needByte(int due) {
            needThat(file.byteAt(at) == (due & 0xff));
            at++;
        }

        private void needHalf(int due) {
            needThat(file.halfAt(at) == due);
            at += 2;
        }

        private void needWord(int due) {
            needThat(file.wordAt(at) == due);
            at += 4;
        }

        private void needMultipleOfFour() {
            for (int i = 0; i < 3 && at % 4 != 0; i++) {
                needByte(0);
            }
        }

        private int howMany(int section) {
            return file.wordAt(SECTIONS_AT + 8 * section);
        }

        private int where(int section) {
            return file.wordAt(SECTIONS_AT + 8 * section + 4);
        }

        private int placeOf(int section, int number) {
            return where(section) + SIZES[section] * number;
        }

        private void lookAtHeader() {
            at = 0;
            needWord(0x0a786564);
            needWord(0x00353330);
            needWord(Digest.adler(file, RegisterFile.DIGEST_AT));
            file.digest.reckon(file, RegisterFile.LENGTH_AT);
            for (int i = 0; i < 20; i++) {
                needByte(file.digest.byteOf(i));
            }
            needWord(file.length);
            needWord(RegisterFile.HEADER);
            needWord(0x12345678);
            needWord(0);
            needWord(0);
        }

        private void lookAtSections() {
            int place = RegisterFile.HEADER;
            for (int section = STRINGS; section < DATA; section++) {
                needThat(howMany(section) >= 0 && howMany(section) <= MOST_STRINGS);
                needThat(where(section) == (section == FIELDS ? 0 : place));
                place += howMany(section) * SIZES[section];
            }
            needThat(howMany(FIELDS) == 0 && howMany(METHODS) == stackFile.methodCount && howMany(CLASSES) == 1);
            needThat(where(DATA) == place && howMany(DATA) == file.length - place);
        }

        /** To the bytes of a STRING, which are to be so many. */
        private void openString(int string, int due) {
            needThat(string >= 0 && string < howMany(STRINGS));
            usedStrings |= 1L << string;
            at = file.wordAt(placeOf(STRINGS, string));
            needByte(due);
        }

        private int stringOfType(int type) {
            needThat(type >= 0 && type < howMany(TYPES));
            usedTypes |= 1L << type;
            return file.wordAt(placeOf(TYPES, type));
        }

        private void needText(int text) {
            for (int i = 0; i < stackFile.textLength(text); i++) {
                needByte(stackFile.textByte(text, i));
            }
        }

        private void needTypeName(int type, int name) {
            openString(stringOfType(type), stackFile.textLength(name) + 2);
            needByte('L');
            needText(name);
            needByte(';');
            needByte(0);
        }

        private void needType(int type, int due) {
            openString(stringOfType(type), due == ARRAY ? 2 : 1);
            if (due == ARRAY) {
                needByte('[');
            }
            needByte(due == NOTHING ? 'V' : 'I');
            needByte(0);
        }

        private void lookAtMethod(int place) {
            needThat(file.halfAt(place) == file.wordAt(where(CLASSES)));
            openString(file.wordAt(place + 4), stackFile.textLength(one.name));
            needText(one.name);
            needByte(0);
        }

        private void lookAtProto(int proto) {
            needThat(proto < howMany(PROTOS));
            usedProtos |= 1L << proto;
            int place = placeOf(PROTOS, proto);
            openString(file.wordAt(place), 1 + one.arguments);
            needByte(Names.shortLetter(one.returns));
            for (int i = 0; i < one.arguments; i++) {
                needByte(Names.shortLetter(one.argumentTypes[i]));
            }
            needByte(0);
            needType(file.wordAt(place + 4), one.returns);
            needThat(argumentsOf(place) == one.arguments);
            for (int i = 0; i < one.arguments; i++) {
                needType(argumentOf(place, i), one.argumentTypes[i]);
            }
        }

        /** How many arguments the type list of the PROTO at a place has. */
        private int argumentsOf(int place) {
            int list = file.wordAt(place + 8);
            return list == 0 ? 0 : file.wordAt(list);
        }

        private int argumentOf(int place, int i) {
            return file.halfAt(file.wordAt(place + 8) + 4 + 2 * i);
        }

        private void lookAtClass() {
            int place = where(CLASSES);
            needTypeName(file.wordAt(place), stackFile.ownName);
            needTypeName(file.wordAt(place + 8), stackFile.aboveName);
            at = place + 4;
            needWord(1);
            at = place + 12;
            needWord(0);
            needWord(0xffffffff);
            needWord(0);
            at = place + 28;
            needWord(0);
        }

        private void lookAtUse() {
            if (arrayType != NONE) {
                needType(arrayType, ARRAY);
            }
            needThat(usedStrings == (1L << howMany(STRINGS)) - 1);
            needThat(usedTypes == (1L << howMany(TYPES)) - 1);
            needThat(usedProtos == (1L << howMany(PROTOS)) - 1);
        }

        /** All that is numbered rises, each without a second one that is the same. */
        private void lookAtOrder() {
            for (int i = 1; i < howMany(STRINGS); i++) {
                needThat(stringRises(file.wordAt(placeOf(STRINGS, i - 1)), file.wordAt(placeOf(STRINGS, i))));
            }
            for (int i = 1; i < howMany(TYPES); i++) {
                needThat(file.wordAt(placeOf(TYPES, i - 1)) < file.wordAt(placeOf(TYPES, i)));
            }
            for (int i = 1; i < howMany(PROTOS); i++) {
                needThat(protoRises(placeOf(PROTOS, i - 1), placeOf(PROTOS, i)));
            }
            for (int i = 1; i < howMany(METHODS); i++) {
                int place = placeOf(METHODS, i);
                int name = file.wordAt(place + 4);
                int before = file.wordAt(place - 4);
                needThat(before < name || before == name && file.halfAt(place - 6) < file.halfAt(place + 2));
            }
        }

        /** Whether a STRING's data come before another's, each behind its length, which is below 80. */
        private boolean stringRises(int first, int second) {
            int shorter = Math.min(file.byteAt(first), file.byteAt(second));
            for (int i = 1; i <= shorter; i++) {
                if (file.byteAt(first + i) != file.byteAt(second + i)) {
                    return file.byteAt(first + i) < file.byteAt(second + i);
                }
            }
            return file.byteAt(first) < file.byteAt(second);
        }

        private boolean protoRises(int first, int second) {
            if (file.wordAt(first + 4) != file.wordAt(second + 4)) {
                return file.wordAt(first + 4) < file.wordAt(second + 4);
            }
            int fewer = Math.min(MOST_ARGUMENTS, Math.min(argumentsOf(first), argumentsOf(second)));
            for (int i = 0; i < fewer; i++) {
                if (argumentOf(first, i) != argumentOf(second, i)) {
                    return argumentOf(first, i) < argumentOf(second, i);
                }
            }
            return argumentsOf(first) < argumentsOf(second);
        }

        /** That all in DATA lies one behind the other, as section 4 orders it. */
        private void lookAtData() {
            at = where(DATA);
            for (int number = 0; number < howMany(METHODS); number++) {
                lookAtUnits(number);
            }
            for (int i = 0; i < howMany(PROTOS); i++) {
                int place = placeOf(PROTOS, i);
                if (file.wordAt(place + 8) != 0) {
                    needMultipleOfFour();
                    needThat(file.wordAt(place + 8) == at);
                    at += 4 + 2 * argumentsOf(place);
                }
            }
            for (int i = 0; i < howMany(STRINGS); i++) {
                needThat(file.wordAt(placeOf(STRINGS, i)) == at);
                at += 2 + file.byteAt(at);
            }
            lookAtClassData();
        }

        private void lookAtUnits(int number) {
            int m = file.names.methodAt[number];
            needMultipleOfFour();
            needThat(file.codeAt(number) == at);
            // REGISTERS, arguments and the most of a 77 were looked at together with the code.
            at += 6;
            needHalf(0);
            needWord(0);
            needWord(file.codes[m].count);
            for (int i = 0; i < file.codes[m].count; i++) {
                needHalf(file.codes[m].units[i]);
            }
        }

        private void lookAtClassData() {
            needThat(file.wordAt(where(CLASSES) + 24) == at);
            needByte(0);
            needByte(0);
            needByte(howMany(METHODS));
            needByte(0);
            for (int number = 0; number < howMany(METHODS); number++) {
                needByte(number == 0 ? 0 : 1);
                needByte(9);
                int rest = file.codeAt(number);
                for (int i = 0; i < 5 && (i == 0 || rest != 0); i++) {
                    needByte(rest >>> 7 == 0 ? rest : rest | 0x80);
                    rest >>>= 7;
                }
            }
        }

        private void lookAtMap() {
            int lists = 0;
            int firstList = 0;
            for (int i = howMany(PROTOS) - 1; i >= 0; i--) {
                if (file.wordAt(placeOf(PROTOS, i) + 8) != 0) {
                    lists++;
                    firstList = file.wordAt(placeOf(PROTOS, i) + 8);
                }
            }
            needMultipleOfFour();
            int map = at;
            needThat(file.wordAt(MAP_TOLD_AT) == map);
            needWord(lists > 0 ? RegisterFile.MAP_LINES + 1 : RegisterFile.MAP_LINES);
            needLine(0, 1, 0);
            needLine(1, howMany(STRINGS), where(STRINGS));
            needLine(2, howMany(TYPES), where(TYPES));
            needLine(3, howMany(PROTOS), where(PROTOS));
            needLine(5, howMany(METHODS), where(METHODS));
            needLine(6, howMany(CLASSES), where(CLASSES));
            needLine(0x2001, howMany(METHODS), where(DATA));
            if (lists > 0) {
                needLine(0x1001, lists, firstList);
            }
            needLine(0x2002, howMany(STRINGS), file.wordAt(where(STRINGS)));
            needLine(0x2000, 1, file.wordAt(where(CLASSES) + 24));
            needLine(0x1000, 1, map);
            needThat(at == file.length);
        }

        private void needLine(int kind, int due, int first) {
            needHalf(kind);
            needHalf(0);
            needWord(due);
            needWord(first);
        }

        private void lookAtCode(int place) {
            firstUnit = place;
            registers = file.halfAt(firstUnit - 16);
            units = file.wordAt(firstUnit - 4);
            mostPassed = 0;
            needThat(registers == one.registers() && file.halfAt(firstUnit - 14) == one.arguments
                    && units >= 1 && units <= MOST_UNITS);
            begin();
            for (int looks = 0; looks < MOST_LOOKS && !wrong; looks++) {
                int i = takeFirstChanged();
                if (i == NONE) {
                    break;
                }
                lookAt(i);
            }
            needThat(mostPassed == file.halfAt(firstUnit - 12));
        }

        private void begin() {
            for (int i = 0; i < MOST_UNITS; i++) {
                reached[i] = false;
                changed[i] = false;
            }
            Arrays.fill(now, 0);
            firstChanged = MOST_UNITS;
            for (int i = 0; i < one.arguments; i++) {
                assign(registers - one.arguments + i, one.argumentTypes[i]);
            }
            giveTo(0);
        }

        private int takeFirstChanged() {
            for (int i = firstChanged; i < units; i++) {
                if (changed[i]) {
                    changed[i] = false;
                    firstChanged = i + 1;
                    System.arraycopy(rows, ROW * i, now, 0, ROW);
                    return i;
                }
            }
            return NONE;
        }

        private void giveTo(int i) {
            if (i < 0 || i >= units) {
                wrong = true;
                return;
            }
            for (int k = 0; k < ROW; k++) {
                long met = reached[i] ? rows[ROW * i + k] & now[k] : now[k];
                if (!reached[i] || met != rows[ROW * i + k]) {
                    changed[i] = true;
                    firstChanged = Math.min(firstChanged, i);
                }
                rows[ROW * i + k] = met;
            }
            reached[i] = true;
        }

        private boolean has(int register, int type) {
            int k = (type == ARRAY ? 2 : 0) + register / 64;
            return register >= 0 && register < registers && k < ROW && (now[k] >>> register % 64 & 1) != 0;
        }

        private void need(int register, int type) {
            needThat(has(register, type));
        }

        private void assign(int register, int type) {
            if (register < 0 || register >= Math.min(registers, MOST_REGISTERS)) {
                wrong = true;
                return;
            }
            long bit = 1L << register % 64;
            int k = register / 64;
            now[k] = type == INT ? now[k] | bit : now[k] & ~bit;
            now[k + 2] = type == ARRAY ? now[k + 2] | bit : now[k + 2] & ~bit;
        }

        private void assignNumber(int register, int value) {
            assign(register, INT);
            if (value == 0 && !wrong) {
                now[2 + register / 64] |= 1L << register % 64;
            }
        }

        private int unitAt(int i) {
            return file.halfAt(firstUnit + 2 * i);
        }

        private int wordOf(int i) {
            return file.wordAt(firstUnit + 2 * i);
        }

        private void lookAt(int i) {
            int op = unitAt(i) & 0xff;
            int next = i + unitsOf(op);
            needThat(next > i && next <= units);
            if (wrong) {
                return;
            }
            boolean jumps = op >= 0x28 && op <= 0x2c || op >= 0x32 && op <= 0x3d;
            if (op == 0x77 || op == 0x0a || op == 0x0c) {
                lookAtCall(i, op);
            } else if (op == 0x0e || op == 0x0f || op == 0x11) {
                lookAtReturn(i, op);
            } else if (jumps) {
                lookAtJump(i, op);
            } else if (op != 0) {
                lookAtValues(i, op);
            }
            boolean goesOn = op != 0x0e && op != 0x0f && op != 0x11 && op != 0x28 && op != 0x29 && op != 0x2a;
            if (goesOn && !wrong) {
                giveTo(next);
            }
        }

        private Method calledAt(int i) {
            int number = unitAt(i + 1);
            return i >= 0 && (unitAt(i) & 0xff) == 0x77 && file.hasNumber(number)
                    ? stackFile.methods[file.names.methodAt[number]] : null;
        }

        private void lookAtCall(int i, int op) {
            Method called = calledAt(op == 0x77 ? i : i - 3);
            if (called == null) {
                wrong = true;
                return;
            }
            int big = unitAt(i) >>> 8;
            if (op == 0x77) {
                needThat(big == called.arguments);
                mostPassed = Math.max(mostPassed, big);
                for (int k = 0; k < called.arguments; k++) {
                    need(unitAt(i + 2) + k, called.argumentTypes[k]);
                }
            } else {
                needThat(called.returns == (op == 0x0a ? INT : ARRAY));
                assign(big, called.returns);
            }
        }

        private void lookAtReturn(int i, int op) {
            int type = op == 0x0e ? NOTHING : op == 0x0f ? INT : ARRAY;
            needThat(type == one.returns && (type == NOTHING || has(unitAt(i) >>> 8, type)));
        }

        private void lookAtJump(int i, int op) {
            int big = unitAt(i) >>> 8;
            if (op == 0x2b || op == 0x2c) {
                need(big, INT);
                lookAtTable(i, i + wordOf(i + 1));
            } else if (op >= 0x32) {
                int x = op < 0x38 ? big & 15 : big;
                int y = op < 0x38 ? big >>> 4 : x;
                boolean same = op == 0x32 || op == 0x33 || op == 0x38 || op == 0x39;
                needThat(has(x, INT) && has(y, INT) || same && has(x, ARRAY) && has(y, ARRAY));
                giveTo(i + (short) unitAt(i + 1));
            } else {
                giveTo(i + (op == 0x28 ? (byte) big : op == 0x29 ? (short) unitAt(i + 1) : wordOf(i + 1)));
            }
        }

        private void lookAtTable(int i, int table) {
            int cases = unitAt(table + 1);
            boolean keyed = unitAt(table) == 0x0200;
            needThat(table % 2 == 0 && cases <= MOST_CASES && (keyed || unitAt(table) == 0x0100));
            int distances = table + 4;
            if (keyed) {
                distances = table + 2 + 2 * cases;
            }
            for (int k = 0; k < cases && !wrong; k++) {
                giveTo(i + wordOf(distances + 2 * k));
            }
        }

        private void lookAtValues(int i, int op) {
            int unit = unitAt(i);
            int second = unitAt(i + 1);
            int big = unit >>> 8;
            int small = big & 15;
            int other = unit >>> 12;
            switch (op) {
                case 0x01: carry(small, other, INT, INT); break;
                case 0x02: carry(big, second, INT, INT); break;
                case 0x07: carry(small, other, ARRAY, ARRAY); break;
                case 0x08: carry(big, second, ARRAY, ARRAY); break;
                case 0x12: assignNumber(small, other); break;
                case 0x13: case 0x15: assignNumber(big, second); break;
                case 0x14: assignNumber(big, wordOf(i + 1)); break;
                case 0x21: carry(small, other, ARRAY, INT); break;
                case 0x23:
                    needThat(arrayType == NONE || arrayType == second);
                    arrayType = second;
                    carry(small, other, INT, ARRAY);
                    break;
                case 0x44:
                    need(second >>> 8, INT);
                    carry(big, second & 0xff, ARRAY, INT);
                    break;
                case 0x4b:
                    need(big, INT);
                    need(second >>> 8, INT);
                    need(second & 0xff, ARRAY);
                    break;
                case 0x7b: case 0x8d: case 0x8e: case 0x8f: carry(small, other, INT, INT); break;
                case 0xd8: carry(big, second & 0xff, INT, INT); break;
                default:
                    if (op >= 0xb0) {
                        need(other, INT);
                        carry(small, small, INT, INT);
                    } else {
                        need(second >>> 8, INT);
                        carry(big, second & 0xff, INT, INT);
                    }
                    break;
            }
        }

        private void carry(int to, int from, int before, int after) {
            need(from, before);
            assign(to, after);
        }
    }
}
