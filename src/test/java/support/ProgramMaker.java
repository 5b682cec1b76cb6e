import java.util.ArrayList;
import java.util.List;
import java.util.Random;

/**
 * Makes chance METHODS whose stacks fit; their locals fit mostly. A forward distance waits till the stack is
 * again what it was; those that still wait at the end go to landings behind the code.
 */
final class ProgramMaker {
    private static final String[] DESCRIPTORS = {
        "()V", "()I", "()[I", "(I)I", "(II)I", "([I)I", "([II)V", "(I)[I", "(I[II)I", "([I[I)[I", "(IIII)I",
        "(IIIIIIII)I", "([II[II[II[II)[I", "(II[I)V"
    };

    private static final class Waiting {
        final int from;
        final int at;
        final boolean wide;
        final String stack;

        Waiting(int from, int at, boolean wide, String stack) {
            this.from = from;
            this.at = at;
            this.wide = wide;
            this.stack = stack;
        }
    }

    final Random chance;
    final FileMaker maker = new FileMaker();
    final List<String> names = new ArrayList<>();
    final List<String> descriptors = new ArrayList<>();
    final List<byte[]> codes = new ArrayList<>();
    private byte[] code;
    private int pc;
    private StringBuilder stack;
    private char[] locals;
    private int stackLimit;
    private int stackSeen;
    private String descriptor;
    private List<Integer> starts;
    private List<String> startStacks;
    private List<Waiting> waiting;
    private boolean open;

    ProgramMaker(long seed) {
        chance = new Random(seed);
    }

    byte[] file() {
        int methods = 1 + chance.nextInt(chance.nextInt(4) == 0 ? 8 : 3);
        for (int m = 0; m < methods; m++) {
            String d = DESCRIPTORS[chance.nextInt(DESCRIPTORS.length)];
            String n = "abcdefghijk".substring(chance.nextInt(3), 3 + chance.nextInt(3)) + (chance.nextInt(2) == 0 ? "" : m);
            if (names.contains(n) && descriptors.get(names.indexOf(n)).equals(d)) {
                n = "other" + m;
            }
            names.add(n);
            descriptors.add(d);
        }
        for (int m = 0; m < methods; m++) {
            makeMethod(m);
        }
        return maker.file();
    }

    static String types(String descriptor) {
        return descriptor.substring(1, descriptor.indexOf(')')).replace("[I", "A");
    }

    static char result(String descriptor) {
        String end = descriptor.substring(descriptor.indexOf(')') + 1);
        return end.equals("[I") ? 'A' : end.charAt(0);
    }

    private void makeMethod(int m) {
        descriptor = descriptors.get(m);
        String arguments = types(descriptor);
        boolean big = chance.nextInt(3) == 0;
        int localCount = Math.min(40, arguments.length() + chance.nextInt(big ? 33 : 5));
        stackLimit = 1 + chance.nextInt(big ? 39 : 8);
        locals = new char[localCount];
        for (int i = 0; i < localCount; i++) {
            locals[i] = i < arguments.length() ? arguments.charAt(i) : '-';
        }
        code = new byte[400];
        pc = 0;
        stack = new StringBuilder();
        stackSeen = 0;
        starts = new ArrayList<>();
        startStacks = new ArrayList<>();
        waiting = new ArrayList<>();
        open = true;
        int goal = 10 + chance.nextInt(190);
        int start = big ? chance.nextInt(stackLimit) : 0;
        for (int i = 0; i < start; i++) {
            begin();
            pushSomething();
        }
        while (pc < goal) {
            begin();
            instruction();
        }
        if (open) {
            begin();
            leave();
        }
        for (Waiting one : new ArrayList<>(waiting)) {
            land(one);
        }
        byte[] all = new byte[pc];
        System.arraycopy(code, 0, all, 0, pc);
        codes.add(all);
        maker.method(names.get(m), descriptor, Math.min(40, stackSeen + chance.nextInt(2)), localCount, all);
    }

    private void begin() {
        starts.add(pc);
        startStacks.add(stack.toString());
        for (int i = waiting.size() - 1; i >= 0; i--) {
            Waiting one = waiting.get(i);
            if (one.stack.contentEquals(stack) && chance.nextInt(3) == 0) {
                settle(one, pc);
                waiting.remove(i);
            }
        }
    }

    private void settle(Waiting one, int to) {
        int distance = to - one.from;
        if (one.wide) {
            code[one.at] = (byte) (distance >> 24);
            code[one.at + 1] = (byte) (distance >> 16);
            code[one.at + 2] = (byte) (distance >> 8);
            code[one.at + 3] = (byte) distance;
        } else {
            code[one.at] = (byte) (distance >> 8);
            code[one.at + 1] = (byte) distance;
        }
    }

    private void land(Waiting one) {
        if (!waiting.contains(one)) {
            return;
        }
        stack = new StringBuilder(one.stack);
        for (Waiting other : new ArrayList<>(waiting)) {
            if (other.stack.equals(one.stack)) {
                settle(other, pc);
                waiting.remove(other);
            }
        }
        starts.add(pc);
        startStacks.add(stack.toString());
        leave();
    }

    private void put(int... all) {
        for (int b : all) {
            if (pc < code.length) {
                code[pc++] = (byte) b;
            }
        }
    }

    private void push(char type) {
        stack.append(type);
        stackSeen = Math.max(stackSeen, stack.length());
    }

    private void pop(int n) {
        stack.setLength(stack.length() - n);
    }

    private boolean room(int n) {
        return stack.length() + n <= stackLimit;
    }

    private void leave() {
        char result = result(descriptor);
        if (result == 'V') {
            put(0xb1);
        } else if (result == 'I') {
            if (!top("I")) {
                if (stack.length() >= 40) {
                    pop(1);
                    put(0x57);
                }
                put(0x10, chance.nextInt(256));
                push('I');
            }
            put(0xac);
        } else {
            if (!top("A")) {
                if (stack.length() >= 40) {
                    pop(1);
                    put(0x57);
                }
                put(0x01);
                push('A');
            }
            put(0xb0);
        }
        open = false;
    }

    private boolean top(String types) {
        int from = stack.length() - types.length();
        return from >= 0 && stack.substring(from).equals(types);
    }

    private int localOf(char type) {
        int n = locals.length;
        for (int tries = 0; tries < 10 && n > 0; tries++) {
            int i = chance.nextInt(n);
            if (locals[i] == type) {
                return i;
            }
        }
        return -1;
    }

    private void localInstruction(int op, int shortOp, int local) {
        if (local < 4 && chance.nextInt(3) != 0) {
            put(shortOp + local);
        } else if (chance.nextInt(5) == 0) {
            put(0xc4, op, 0, local);
        } else {
            put(op, local);
        }
    }

    private void pushSomething() {
        if (!room(1)) {
            return;
        }
        switch (chance.nextInt(9)) {
            case 0: put(0x02 + chance.nextInt(7)); push('I'); break;
            case 1: put(0x10, chance.nextInt(256)); push('I'); break;
            case 2: put(0x11, chance.nextInt(256), chance.nextInt(256)); push('I'); break;
            case 3: {
                int[] some = {Integer.MIN_VALUE, Integer.MAX_VALUE, 0x10000, 0x7fff0000, 40000, -40000, 7, 100};
                int constant = maker.integer(some[chance.nextInt(some.length)]);
                if (constant < 256 && chance.nextInt(2) == 0) {
                    put(0x12, constant);
                } else {
                    put(0x13, constant >> 8, constant);
                }
                push('I');
                break;
            }
            case 4: put(0x01); push('A'); break;
            case 5: put(0x10, chance.nextInt(12), 0xbc, 0x0a); starts.add(pc - 2); startStacks.add(stack + "I"); push('A'); break;
            case 6: case 7: {
                int local = localOf('I');
                if (local >= 0) {
                    localInstruction(0x15, 0x1a, local);
                    push('I');
                }
                break;
            }
            default: {
                int local = localOf('A');
                if (local >= 0) {
                    localInstruction(0x19, 0x2a, local);
                    push('A');
                }
                break;
            }
        }
    }

    private void instruction() {
        int pick = chance.nextInt(20);
        if (pick < 6) {
            pushSomething();
        } else if (pick < 9) {
            sum();
        } else if (pick < 11) {
            store();
        } else if (pick < 13) {
            shuffle();
        } else if (pick < 15) {
            array();
        } else if (pick < 18) {
            jump();
        } else if (pick == 18) {
            call();
        } else {
            odd();
        }
    }

    private void sum() {
        int[] ops = {0x60, 0x64, 0x68, 0x6c, 0x70, 0x78, 0x7a, 0x7c, 0x7e, 0x80, 0x82};
        if (top("II") && chance.nextInt(3) != 0) {
            put(ops[chance.nextInt(ops.length)]);
            pop(1);
        } else if (top("I")) {
            int[] one = {0x74, 0x91, 0x92, 0x93};
            put(one[chance.nextInt(4)]);
        }
    }

    private void store() {
        if (stack.length() == 0 || locals.length == 0) {
            return;
        }
        int local = chance.nextInt(locals.length);
        char type = stack.charAt(stack.length() - 1);
        localInstruction(type == 'I' ? 0x36 : 0x3a, type == 'I' ? 0x3b : 0x4b, local);
        locals[local] = type;
        pop(1);
    }

    private void shuffle() {
        int n = stack.length();
        int pick = chance.nextInt(5);
        if (pick == 0 && n >= 1) {
            put(0x57);
            pop(1);
        } else if (pick == 1 && n >= 1 && room(1)) {
            put(0x59);
            push(stack.charAt(n - 1));
        } else if (pick == 2 && n >= 2 && room(1)) {
            put(0x5a);
            char x = stack.charAt(n - 2);
            char y = stack.charAt(n - 1);
            pop(2);
            push(y);
            push(x);
            push(y);
        } else if (pick == 3 && n >= 2 && room(2)) {
            put(0x5c);
            push(stack.charAt(n - 2));
            push(stack.charAt(n - 1));
        } else if (n >= 2) {
            put(0x5f);
            char x = stack.charAt(n - 2);
            char y = stack.charAt(n - 1);
            pop(2);
            push(y);
            push(x);
        }
    }

    private void array() {
        if (top("AII") && chance.nextInt(4) != 0) {
            put(0x4f);
            pop(3);
        } else if (top("AI") && chance.nextInt(3) != 0) {
            put(0x2e);
            pop(2);
            push('I');
        } else if (top("A")) {
            if (chance.nextInt(2) == 0) {
                put(0xbe);
                pop(1);
                push('I');
            } else if (room(1)) {
                put(0x02 + chance.nextInt(7));
                push('I');
            }
        } else if (top("I")) {
            put(0xbc, 0x0a);
            pop(1);
            push('A');
        }
    }

    private void distance(int from, boolean wide) {
        int at = pc;
        put(0, 0);
        if (wide) {
            put(0, 0);
        }
        if (chance.nextInt(3) == 0) {
            for (int tries = 0; tries < 5; tries++) {
                int i = chance.nextInt(starts.size());
                if (startStacks.get(i).contentEquals(stack)) {
                    settle(new Waiting(from, at, wide, ""), starts.get(i));
                    return;
                }
            }
        }
        waiting.add(new Waiting(from, at, wide, stack.toString()));
    }

    private void jump() {
        int from = pc;
        int pick = chance.nextInt(10);
        if (top("II") && pick < 4) {
            put(0x9f + chance.nextInt(6));
            pop(2);
            distance(from, false);
        } else if (top("AA") && pick < 6) {
            put(0xa5 + chance.nextInt(2));
            pop(2);
            distance(from, false);
        } else if (top("A")) {
            put(0xc6 + chance.nextInt(2));
            pop(1);
            distance(from, false);
        } else if (top("I") && pick < 7) {
            put(0x99 + chance.nextInt(6));
            pop(1);
            distance(from, false);
        } else if (top("I") && pc < 150) {
            choose(from);
        } else if (pick == 9) {
            put(0xa7);
            distance(from, false);
            afterEnd();
        }
    }

    private void choose(int from) {
        boolean table = chance.nextInt(2) == 0;
        put(table ? 0xaa : 0xab);
        pop(1);
        while (pc % 4 != 0) {
            put(0);
        }
        distance(from, true);
        int n = table ? 1 + chance.nextInt(4) : chance.nextInt(5);
        if (table) {
            int low = chance.nextInt(6) - 3;
            int high = low + n - 1;
            put(low >> 24, low >> 16, low >> 8, low, high >> 24, high >> 16, high >> 8, high);
        } else {
            put(0, 0, 0, n);
        }
        int key = -4;
        for (int i = 0; i < n; i++) {
            if (!table) {
                key += 1 + chance.nextInt(4);
                put(key >> 24, key >> 16, key >> 8, key);
            }
            distance(from, true);
        }
        afterEnd();
    }

    /** Behind what does not go on the code lies what a waiting distance goes to, or what nothing reaches. */
    private void afterEnd() {
        if (!waiting.isEmpty() && chance.nextInt(4) != 0) {
            Waiting one = waiting.remove(chance.nextInt(waiting.size()));
            settle(one, pc);
            stack = new StringBuilder(one.stack);
        }
    }

    private void call() {
        int m = chance.nextInt(names.size());
        String types = types(descriptors.get(m));
        if (!top(types) && !(types.length() < 4 && room(types.length()))) {
            return;
        }
        if (!top(types)) {
            for (char type : types.toCharArray()) {
                put(type == 'I' ? 0x05 : 0x01);
                push(type);
                starts.add(pc);
                startStacks.add(stack.toString());
            }
        }
        char result = result(descriptors.get(m));
        if (result != 'V' && types.isEmpty() && !room(1)) {
            return;
        }
        int constant = maker.own(names.get(m), descriptors.get(m));
        put(0xb8, constant >> 8, constant);
        pop(types.length());
        if (result != 'V') {
            push(result);
        }
    }

    private void odd() {
        int pick = chance.nextInt(8);
        int local = localOf('I');
        if (pick < 2) {
            put(0x00);
        } else if (pick < 5 && local >= 0) {
            put(0x84, local, chance.nextInt(256));
        } else if (pick < 7 && local >= 0) {
            put(0xc4, 0x84, 0, local, chance.nextInt(256), chance.nextInt(256));
        } else if (pick == 7 && chance.nextInt(4) == 0) {
            leave();
            open = false;
            if (result(descriptor) != 'V') {
                pop(1);
            }
            afterEnd();
            open = true;
        }
    }
}
