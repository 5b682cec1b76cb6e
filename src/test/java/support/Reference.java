import java.util.ArrayList;
import java.util.Arrays;
import java.util.List;
import java.util.TreeMap;

/** Sections 1 and 2 of the document told once more, with exceptions and lists: which FAULT, where, which STATES. */
final class Reference {
    static final class Fault extends Exception {
        private static final long serialVersionUID = 1;
        final int kind;
        final int place;

        Fault(int kind, int place) {
            super("FAULT " + kind + " at " + place);
            this.kind = kind;
            this.place = place;
        }
    }

    static final class Body {
        String name;
        String descriptor;
        String arguments;
        char returns;
        int stack;
        int locals;
        int place;
        byte[] code;
        /** By where it begins: how long an instruction is. */
        final TreeMap<Integer, Integer> lengths = new TreeMap<>();
        /** By where an instruction begins: its stack, a bar, its locals. */
        final TreeMap<Integer, String> states = new TreeMap<>();
    }

    private final byte[] file;
    private int at;
    private int[] tags;
    private Object[] constants;
    final List<Body> bodies = new ArrayList<>();
    private String own;

    Reference(byte[] file) {
        this.file = file;
    }

    void read() throws Fault {
        readFile();
        for (Body body : bodies) {
            lookAtCode(body);
        }
        for (Body body : bodies) {
            follow(body);
        }
    }

    private long n(int size) throws Fault {
        if (at + size > file.length) {
            throw new Fault(1, file.length);
        }
        long number = 0;
        for (int i = 0; i < size; i++) {
            number = number * 256 + Byte.toUnsignedInt(file[at++]);
        }
        return number;
    }

    private int n(int size, long low, long high) throws Fault {
        int start = at;
        long number = n(size);
        if (number < low || number > high) {
            throw new Fault(1, start);
        }
        return (int) number;
    }

    private byte[] bytes(long howMany) throws Fault {
        if (howMany > file.length - at) {
            throw new Fault(1, file.length);
        }
        byte[] all = Arrays.copyOfRange(file, at, at + (int) howMany);
        at += (int) howMany;
        return all;
    }

    private void readFile() throws Fault {
        n(4, 0xcafebabeL, 0xcafebabeL);
        n(2, 0, 0);
        n(2, 49, 49);
        int count = n(2, 2, 101);
        tags = new int[count];
        constants = new Object[count];
        int[] places = new int[count];
        for (int i = 1; i < count; i++) {
            int start = at;
            tags[i] = n(1, 0, 255);
            places[i] = at;
            if (tags[i] == 1) {
                byte[] all = bytes(n(2));
                for (int k = 0; k < all.length; k++) {
                    if (all[k] <= 0) {
                        throw new Fault(1, places[i] + 2 + k);
                    }
                }
                constants[i] = new String(all, java.nio.charset.StandardCharsets.ISO_8859_1);
            } else if (tags[i] == 3) {
                constants[i] = (int) n(4);
            } else if (tags[i] == 7) {
                constants[i] = new int[] {(int) n(2)};
            } else if (tags[i] == 10 || tags[i] == 12) {
                constants[i] = new int[] {(int) n(2), (int) n(2)};
            } else {
                throw new Fault(1, start);
            }
        }
        for (int i = 1; i < count; i++) {
            if (constants[i] instanceof int[]) {
                int[] parts = (int[]) constants[i];
                for (int k = 0; k < parts.length; k++) {
                    int tag = tags[i] == 10 ? (k == 0 ? 7 : 12) : 1;
                    if (!is(parts[k], tag)) {
                        throw new Fault(1, places[i] + 2 * k);
                    }
                }
            }
        }
        n(2, 0x21, 0x21);
        own = typeName(null);
        typeName(own);
        n(2, 0, 0);
        n(2, 0, 0);
        int methods = n(2, 1, 8);
        for (int m = 0; m < methods; m++) {
            readMethod();
        }
        skipAttributes();
        if (at != file.length) {
            throw new Fault(1, at);
        }
    }

    private boolean is(int i, int tag) {
        return i > 0 && i < tags.length && tags[i] == tag;
    }

    private String text() throws Fault {
        int start = at;
        int i = (int) n(2);
        if (!is(i, 1)) {
            throw new Fault(1, start);
        }
        return (String) constants[i];
    }

    private String typeName(String other) throws Fault {
        int start = at;
        int i = (int) n(2);
        if (!is(i, 7)) {
            throw new Fault(1, start);
        }
        String name = (String) constants[((int[]) constants[i])[0]];
        if (name.length() > 40 || !name.matches("[A-Za-z0-9_$]+(/[A-Za-z0-9_$]+)*") || name.equals(other)) {
            throw new Fault(1, start);
        }
        return name;
    }

    private void readMethod() throws Fault {
        Body body = new Body();
        n(2, 9, 9);
        int start = at;
        body.name = text();
        if (!body.name.matches("[A-Za-z0-9_$]{1,30}")) {
            throw new Fault(1, start);
        }
        start = at;
        body.descriptor = text();
        if (!body.descriptor.matches("\\((\\[?I){0,8}\\)(I|\\[I|V)")) {
            throw new Fault(1, start);
        }
        for (Body other : bodies) {
            if (other.name.equals(body.name) && other.descriptor.equals(body.descriptor)) {
                throw new Fault(1, start);
            }
        }
        body.arguments = ProgramMaker.types(body.descriptor);
        body.returns = ProgramMaker.result(body.descriptor);
        int countAt = at;
        int count = (int) n(2);
        for (int i = 0; i < count; i++) {
            int nameAt = at;
            if (!text().equals("Code")) {
                bytes(n(4));
                continue;
            }
            if (body.code != null) {
                throw new Fault(1, nameAt);
            }
            int toldAt = at;
            long told = n(4);
            if (told > file.length - at) {
                throw new Fault(1, file.length);
            }
            int first = at;
            body.stack = n(2, 0, 40);
            body.locals = n(2, body.arguments.length(), 40);
            int length = n(4, 1, 300);
            body.place = at;
            body.code = bytes(length);
            n(2, 0, 0);
            skipAttributes();
            if (at - first != told) {
                throw new Fault(1, toldAt);
            }
        }
        if (body.code == null) {
            throw new Fault(1, countAt);
        }
        bodies.add(body);
    }

    private void skipAttributes() throws Fault {
        int count = (int) n(2);
        for (int i = 0; i < count; i++) {
            text();
            bytes(n(4));
        }
    }

    static int u(Body body, int pc) {
        return body.code[pc] & 0xff;
    }

    static int s2(Body body, int pc) {
        return (short) (u(body, pc) << 8 | u(body, pc + 1));
    }

    static int s4(Body body, int pc) {
        return s2(body, pc) << 16 | s2(body, pc + 2) & 0xffff;
    }

    private static final String ONE_BYTE = " 00 01 02 03 04 05 06 07 08 1a 1b 1c 1d 2a 2b 2c 2d 2e 3b 3c 3d 3e 4b 4c 4d 4e 4f"
        + " 57 59 5a 5c 5f 60 64 68 6c 70 74 78 7a 7c 7e 80 82 91 92 93 ac b0 b1 be ";

    private int lengthOf(Body body, int pc) {
        int op = u(body, pc);
        String hex = String.format(" %02x ", op);
        if (ONE_BYTE.contains(hex)) {
            return 1;
        }
        if (" 10 12 15 19 36 3a bc ".contains(hex)) {
            return 2;
        }
        if (" 11 13 84 b8 c6 c7 ".contains(hex) || op >= 0x99 && op <= 0xa7) {
            return 3;
        }
        int left = body.code.length - pc;
        if (op == 0xc4 && left > 1) {
            hex = String.format(" %02x ", u(body, pc + 1));
            return " 15 19 36 3a ".contains(hex) ? 4 : hex.equals(" 84 ") ? 6 : -1;
        }
        if (op != 0xaa && op != 0xab) {
            return -1;
        }
        int p = pc + 1;
        while (p % 4 != 0) {
            p++;
        }
        if (p + 8 > body.code.length || op == 0xaa && p + 12 > body.code.length) {
            return -1;
        }
        for (int i = pc + 1; i < p; i++) {
            if (u(body, i) != 0) {
                return -1;
            }
        }
        if (op == 0xaa) {
            long low = s4(body, p + 4);
            long high = s4(body, p + 8);
            return high < low || high > low + 59 ? -1 : p + 12 + 4 * (int) (high - low + 1) - pc;
        }
        int howMany = s4(body, p + 4);
        return howMany < 0 || howMany > 60 ? -1 : p + 8 + 8 * howMany - pc;
    }

    private void lookAtCode(Body body) throws Fault {
        for (int pc = 0; pc < body.code.length;) {
            int length = lengthOf(body, pc);
            if (length < 0 || pc + length > body.code.length || !right(body, pc, length)) {
                throw new Fault(2, body.place + pc);
            }
            body.lengths.put(pc, length);
            pc += length;
        }
        for (int pc : body.lengths.keySet()) {
            for (int target : targets(body, pc)) {
                if (!body.lengths.containsKey(target)) {
                    throw new Fault(2, body.place + pc);
                }
            }
        }
    }

    private boolean right(Body body, int pc, int length) {
        int op = u(body, pc);
        int local = local(body, pc);
        if (local >= body.locals) {
            return false;
        }
        if (op == 0x12) {
            return is(u(body, pc + 1), 3);
        }
        if (op == 0x13) {
            return is(s2(body, pc + 1) & 0xffff, 3);
        }
        if (op == 0xbc) {
            return u(body, pc + 1) == 10;
        }
        if (op == 0xb8) {
            return called(body, pc) != null;
        }
        if (op == 0xab) {
            int first = (pc + 4) / 4 * 4 + 8;
            for (int p = first + 8; p < pc + length; p += 8) {
                if (s4(body, p) <= s4(body, p - 8)) {
                    return false;
                }
            }
        }
        return true;
    }

    Body called(Body body, int pc) {
        int i = s2(body, pc + 1) & 0xffff;
        if (!is(i, 10)) {
            return null;
        }
        int[] parts = (int[]) constants[i];
        int[] pair = (int[]) constants[parts[1]];
        if (!constants[((int[]) constants[parts[0]])[0]].equals(own)) {
            return null;
        }
        for (Body other : bodies) {
            if (other.name.equals(constants[pair[0]]) && other.descriptor.equals(constants[pair[1]])) {
                return other;
            }
        }
        return null;
    }

    int intOf(int constant) {
        return (Integer) constants[constant];
    }

    /** The local that an instruction has to do with, or -1. */
    static int local(Body body, int pc) {
        int op = u(body, pc);
        if (op == 0xc4) {
            return s2(body, pc + 2) & 0xffff;
        }
        if (op == 0x15 || op == 0x19 || op == 0x36 || op == 0x3a || op == 0x84) {
            return u(body, pc + 1);
        }
        for (int first : new int[] {0x1a, 0x2a, 0x3b, 0x4b}) {
            if (op >= first && op < first + 4) {
                return op - first;
            }
        }
        return -1;
    }

    static List<Integer> targets(Body body, int pc) {
        List<Integer> all = new ArrayList<>();
        int op = u(body, pc);
        int p = (pc + 4) / 4 * 4;
        if (op >= 0x99 && op <= 0xa7 || op == 0xc6 || op == 0xc7) {
            all.add(pc + s2(body, pc + 1));
        } else if (op == 0xaa) {
            all.add(pc + s4(body, p));
            for (int i = 0; i <= s4(body, p + 8) - s4(body, p + 4); i++) {
                all.add(pc + s4(body, p + 12 + 4 * i));
            }
        } else if (op == 0xab) {
            all.add(pc + s4(body, p));
            for (int i = 0; i < s4(body, p + 4); i++) {
                all.add(pc + s4(body, p + 12 + 8 * i));
            }
        }
        return all;
    }

    private void follow(Body body) throws Fault {
        String locals = body.arguments + "-".repeat(body.locals - body.arguments.length());
        body.states.put(0, "|" + locals);
        java.util.TreeSet<Integer> open = new java.util.TreeSet<>();
        open.add(0);
        while (!open.isEmpty()) {
            int pc = open.pollFirst();
            Fault fault = new Fault(3, body.place + pc);
            String left = effect(body, pc, body.states.get(pc), fault);
            int op = u(body, pc);
            List<Integer> next = new ArrayList<>();
            boolean ends = op == 0xa7 || op == 0xaa || op == 0xab || op == 0xac || op == 0xb0 || op == 0xb1;
            if (!ends) {
                next.add(pc + body.lengths.get(pc));
            }
            next.addAll(targets(body, pc));
            for (int to : next) {
                if (to == body.code.length) {
                    throw fault;
                }
                String there = body.states.get(to);
                String met = there == null ? left : meet(there, left, fault);
                if (!met.equals(there)) {
                    body.states.put(to, met);
                    open.add(to);
                }
            }
        }
    }

    private static String meet(String there, String here, Fault fault) throws Fault {
        int bar = there.indexOf('|');
        if (here.length() != there.length() || !here.startsWith(there.substring(0, bar + 1))) {
            throw fault;
        }
        StringBuilder met = new StringBuilder(there);
        for (int i = bar + 1; i < met.length(); i++) {
            if (here.charAt(i) != there.charAt(i)) {
                met.setCharAt(i, '-');
            }
        }
        return met.toString();
    }

    private String effect(Body body, int pc, String state, Fault fault) throws Fault {
        int bar = state.indexOf('|');
        String stack = state.substring(0, bar);
        StringBuilder locals = new StringBuilder(state.substring(bar + 1));
        int op = u(body, pc);
        int real = op == 0xc4 ? u(body, pc + 1) : op;
        int local = local(body, pc);
        String takes = takes(body, pc, real, stack);
        if (takes == null || !stack.endsWith(takes)) {
            throw fault;
        }
        String x = takes.length() > 1 ? takes.substring(0, 1) : "";
        String y = takes.isEmpty() ? "" : takes.substring(takes.length() - 1);
        stack = stack.substring(0, stack.length() - takes.length());
        boolean loads = real == 0x15 || real >= 0x1a && real <= 0x1d || real == 0x84;
        boolean loadsArray = real == 0x19 || real >= 0x2a && real <= 0x2d;
        boolean stores = real == 0x36 || real == 0x3a || real >= 0x3b && real <= 0x3e || real >= 0x4b && real <= 0x4e;
        if (loads && locals.charAt(local) != 'I' || loadsArray && locals.charAt(local) != 'A') {
            throw fault;
        }
        if (stores) {
            locals.setCharAt(local, y.charAt(0));
        } else if (real == 0x01 || loadsArray || real == 0xbc) {
            stack += "A";
        } else if (real >= 0x02 && real <= 0x13 || loads && real != 0x84 || real == 0x2e || real == 0xbe
                || real >= 0x60 && real <= 0x82 || real >= 0x91 && real <= 0x93) {
            stack += "I";
        } else if (real == 0x59) {
            stack += y + y;
        } else if (real == 0x5a) {
            stack += y + x + y;
        } else if (real == 0x5c) {
            stack += x + y + x + y;
        } else if (real == 0x5f) {
            stack += y + x;
        } else if (real == 0xb8 && called(body, pc).returns != 'V') {
            stack += called(body, pc).returns;
        }
        if (stack.length() > body.stack) {
            throw fault;
        }
        return stack + "|" + locals;
    }

    /** What an instruction takes, the last one on top; null if it may not stand there at all. */
    private String takes(Body body, int pc, int op, String stack) {
        int n = stack.length();
        if (op == 0x57 || op == 0x59) {
            return n < 1 ? null : stack.substring(n - 1);
        }
        if (op == 0x5a || op == 0x5c || op == 0x5f) {
            return n < 2 ? null : stack.substring(n - 2);
        }
        if (op == 0xac || op == 0xb0 || op == 0xb1) {
            char returns = op == 0xac ? 'I' : op == 0xb0 ? 'A' : 'V';
            return returns != body.returns ? null : returns == 'V' ? "" : "" + returns;
        }
        if (op == 0xb8) {
            return called(body, pc).arguments;
        }
        if (op == 0x74 || op >= 0x91 && op <= 0x93 || op == 0xbc || op >= 0x99 && op <= 0x9e || op == 0xaa || op == 0xab
                || op == 0x36 || op >= 0x3b && op <= 0x3e) {
            return "I";
        }
        if (op >= 0x60 && op <= 0x82 || op >= 0x9f && op <= 0xa4) {
            return "II";
        }
        if (op == 0x3a || op >= 0x4b && op <= 0x4e || op == 0xbe || op == 0xc6 || op == 0xc7) {
            return "A";
        }
        return op == 0x2e ? "AI" : op == 0x4f ? "AII" : op == 0xa5 || op == 0xa6 ? "AA" : "";
    }
}
