import java.util.ArrayList;
import java.util.List;
import java.util.Map;
import java.util.TreeMap;

/** Section 3 of the document told once more: the units of a METHOD, piece by piece, laid out in rounds. */
final class ReferenceUnits {
    private static final int NO_JUMP = 0;
    private static final int GOTO = 1;
    private static final int QUESTION = 2;
    private static final int SWITCH = 3;

    /** Some units of an instruction; of a jump the opcode's unit, and the rest when its distance is known. */
    private static final class Piece {
        final List<Integer> units = new ArrayList<>();
        int jump;
        int pc;
        int target;
        int size;
        int at;
        boolean filled;
    }

    private final Reference reference;
    private final Reference.Body body;
    private final Map<Reference.Body, Integer> numbers;
    private final int arrayType;
    private final List<Piece> arguments = new ArrayList<>();
    private final TreeMap<Integer, List<Piece>> pieces = new TreeMap<>();
    final TreeMap<Integer, Integer> begins = new TreeMap<>();
    final List<Integer> units = new ArrayList<>();
    int mostPassed;
    private List<Piece> now;

    ReferenceUnits(Reference reference, Reference.Body body, Map<Reference.Body, Integer> numbers, int arrayType) {
        this.reference = reference;
        this.body = body;
        this.numbers = numbers;
        this.arrayType = arrayType;
        now = arguments;
        for (int i = 0; i < body.arguments.length(); i++) {
            move(local(i), 2 + body.locals + body.stack + i, body.arguments.charAt(i));
        }
        for (int pc : body.states.keySet()) {
            now = new ArrayList<>();
            instruction(pc);
            pieces.put(pc, now);
        }
        rounds();
        write();
        tables();
    }

    private static int local(int i) {
        return 2 + i;
    }

    private int cell(int i) {
        return 2 + body.locals + i;
    }

    private Piece piece(int... all) {
        Piece one = new Piece();
        for (int unit : all) {
            one.units.add(unit & 0xffff);
        }
        one.size = all.length;
        now.add(one);
        return one;
    }

    private void jump(int kind, int pc, int target, int first, int size) {
        Piece one = piece(first);
        one.jump = kind;
        one.pc = pc;
        one.target = target;
        one.size = size;
    }

    private void move(int to, int from, char type) {
        boolean array = type == 'A';
        if (to <= 15 && from <= 15) {
            piece((array ? 0x07 : 0x01) + to * 0x100 + from * 0x1000);
        } else {
            piece((array ? 0x08 : 0x02) + to * 0x100, from);
        }
    }

    private void number(int to, int value) {
        if (to <= 15 && -8 <= value && value <= 7) {
            piece(0x12 + to * 0x100 + (value & 0xf) * 0x1000);
        } else if (-32768 <= value && value <= 32767) {
            piece(0x13 + to * 0x100, value);
        } else if (value % 65536 == 0) {
            piece(0x15 + to * 0x100, value >> 16);
        } else {
            piece(0x14 + to * 0x100, value, value >> 16);
        }
    }

    private void three(int op, int a, int b, int c) {
        piece(op + a * 0x100, b + c * 0x100);
    }

    private void instruction(int pc) {
        String stack = body.states.get(pc).substring(0, body.states.get(pc).indexOf('|'));
        int depth = stack.length();
        int op = Reference.u(body, pc);
        boolean wide = op == 0xc4;
        int real = wide ? Reference.u(body, pc + 1) : op;
        int local = Reference.local(body, pc);
        int last = cell(depth - 1);
        if (real == 0x00 || real == 0x57) {
            return;
        }
        if (real <= 0x13) {
            number(cell(depth), constant(pc, real));
        } else if (real == 0x84) {
            addTo(local(local), wide ? Reference.s2(body, pc + 4) : (byte) Reference.u(body, pc + 2));
        } else if (local >= 0 && real < 0x30) {
            move(cell(depth), local(local), real == 0x19 || real >= 0x2a ? 'A' : 'I');
        } else if (local >= 0) {
            move(local(local), last, real == 0x3a || real >= 0x4b ? 'A' : 'I');
        } else if (real == 0x2e) {
            three(0x44, last - 1, last - 1, last);
        } else if (real == 0x4f) {
            three(0x4b, last, last - 2, last - 1);
        } else if (real >= 0x59 && real <= 0x5f) {
            shuffle(real, stack, depth);
        } else if (real == 0x74 || real >= 0x91 && real <= 0x93 || real == 0xbc || real == 0xbe) {
            one(real, last);
        } else if (real >= 0x60 && real <= 0x82) {
            two(real, last - 1, last);
        } else if (real == 0xac || real == 0xb0 || real == 0xb1) {
            piece(real == 0xb1 ? 0x0e : (real == 0xac ? 0x0f : 0x11) + last * 0x100);
        } else if (real == 0xb8) {
            call(reference.called(body, pc), depth);
        } else {
            jumps(pc, real, last);
        }
    }

    private int constant(int pc, int op) {
        if (op <= 0x08) {
            return op == 0x01 ? 0 : op - 3;
        }
        switch (op) {
            case 0x10: return (byte) Reference.u(body, pc + 1);
            case 0x11: return Reference.s2(body, pc + 1);
            case 0x12: return reference.intOf(Reference.u(body, pc + 1));
            default: return reference.intOf(Reference.s2(body, pc + 1) & 0xffff);
        }
    }

    private void addTo(int register, int more) {
        if (-128 <= more && more <= 127) {
            three(0xd8, register, register, more & 0xff);
        } else {
            number(0, more);
            three(0x90, register, register, 0);
        }
    }

    private void shuffle(int op, String stack, int depth) {
        int y = cell(depth - 1);
        char ofY = stack.charAt(depth - 1);
        if (op == 0x59) {
            move(cell(depth), y, ofY);
            return;
        }
        int x = cell(depth - 2);
        char ofX = stack.charAt(depth - 2);
        if (op == 0x5a) {
            move(cell(depth), y, ofY);
            move(y, x, ofX);
            move(x, cell(depth), ofY);
        } else if (op == 0x5c) {
            move(cell(depth), x, ofX);
            move(cell(depth + 1), y, ofY);
        } else {
            move(0, y, ofY);
            move(y, x, ofX);
            move(x, 0, ofY);
        }
    }

    private void one(int op, int x) {
        int register = x <= 15 ? x : 0;
        if (x > 15) {
            move(0, x, op == 0xbe ? 'A' : 'I');
        }
        int[] stackOps = {0x74, 0x91, 0x92, 0x93, 0xbe, 0xbc};
        int[] ops = {0x7b, 0x8d, 0x8e, 0x8f, 0x21, 0x23};
        for (int i = 0; i < 6; i++) {
            if (stackOps[i] == op) {
                piece(ops[i] + register * 0x1100);
            }
        }
        if (op == 0xbc) {
            piece(arrayType);
        }
        if (x > 15) {
            move(x, 0, op == 0xbc ? 'A' : 'I');
        }
    }

    private void two(int op, int x, int y) {
        int[] order = {0x60, 0x64, 0x68, 0x6c, 0x70, 0x7e, 0x80, 0x82, 0x78, 0x7a, 0x7c};
        for (int i = 0; i < order.length; i++) {
            if (order[i] == op && y <= 15) {
                piece(0xb0 + i + x * 0x100 + y * 0x1000);
            } else if (order[i] == op) {
                three(0x90 + i, x, x, y);
            }
        }
    }

    private void call(Reference.Body called, int depth) {
        int passed = called.arguments.length();
        mostPassed = Math.max(mostPassed, passed);
        piece(0x77 + passed * 0x100, numbers.get(called), cell(depth - passed));
        if (called.returns != 'V') {
            piece((called.returns == 'I' ? 0x0a : 0x0c) + cell(depth - passed) * 0x100);
        }
    }

    private void jumps(int pc, int op, int last) {
        int target = Reference.targets(body, pc).get(0);
        if (op == 0xa7) {
            jump(GOTO, pc, target, 0, 1);
        } else if (op == 0xaa || op == 0xab) {
            jump(SWITCH, pc, target, (op == 0xaa ? 0x2b : 0x2c) + last * 0x100, 3);
            jump(GOTO, pc, target, 0, 1);
        } else if (op <= 0x9e || op >= 0xc6) {
            int which = op <= 0x9e ? op - 0x99 : op - 0xc6;
            jump(QUESTION, pc, target, 0x38 + which + last * 0x100, 2);
        } else {
            int which = op <= 0xa4 ? op - 0x9f : op - 0xa5;
            int x = last - 1;
            int y = last;
            if (y > 15) {
                move(0, x, op <= 0xa4 ? 'I' : 'A');
                move(1, y, op <= 0xa4 ? 'I' : 'A');
                x = 0;
                y = 1;
            }
            jump(QUESTION, pc, target, 0x32 + which + x * 0x100 + y * 0x1000, 2);
        }
    }

    private void layOut() {
        int at = 0;
        for (Piece one : arguments) {
            at += one.size;
        }
        for (Map.Entry<Integer, List<Piece>> entry : pieces.entrySet()) {
            begins.put(entry.getKey(), at);
            for (Piece one : entry.getValue()) {
                one.at = at + (one.filled ? 1 : 0);
                at = one.at + one.size;
            }
        }
    }

    private int distance(Piece one) {
        return begins.get(one.target) - one.at;
    }

    private void rounds() {
        layOut();
        for (List<Piece> all : pieces.values()) {
            for (Piece one : all) {
                one.size = one.jump == GOTO && distance(one) == 0 ? 3 : one.size;
                one.filled = one.jump == QUESTION && distance(one) == 0;
            }
        }
        boolean grown = true;
        while (grown) {
            grown = false;
            layOut();
            for (List<Piece> all : pieces.values()) {
                for (Piece one : all) {
                    int bits = one.size == 1 ? 8 : one.size == 2 ? 16 : 32;
                    if (one.jump == GOTO && distance(one) << 32 - bits >> 32 - bits != distance(one)) {
                        one.size++;
                        grown = true;
                    }
                }
            }
        }
    }

    private void write() {
        for (Piece one : arguments) {
            units.addAll(one.units);
        }
        for (List<Piece> all : pieces.values()) {
            for (Piece one : all) {
                if (one.filled) {
                    units.add(0);
                }
                int distance = one.jump == NO_JUMP ? 0 : distance(one);
                if (one.jump == GOTO) {
                    units.add(one.size == 1 ? 0x28 + (distance & 0xff) * 0x100 : one.size == 2 ? 0x29 : 0x2a);
                    for (int i = 1; i < one.size; i++) {
                        units.add(distance >> 16 * (i - 1) & 0xffff);
                    }
                } else {
                    units.addAll(one.units);
                    for (int i = one.units.size(); i < one.size; i++) {
                        units.add(one.jump == QUESTION ? distance & 0xffff : 0);
                    }
                }
            }
        }
    }

    private void word(int word) {
        units.add(word & 0xffff);
        units.add(word >>> 16);
    }

    private void tables() {
        for (List<Piece> all : pieces.values()) {
            for (Piece one : all) {
                if (one.jump == SWITCH) {
                    table(one);
                }
            }
        }
    }

    private void table(Piece one) {
        if (units.size() % 2 == 1) {
            units.add(0);
        }
        units.set(one.at + 1, units.size() - one.at & 0xffff);
        List<Integer> targets = Reference.targets(body, one.pc);
        int words = (one.pc + 4) / 4 * 4;
        boolean keyed = Reference.u(body, one.pc) == 0xab;
        units.add(keyed ? 0x0200 : 0x0100);
        units.add(targets.size() - 1);
        for (int i = 0; i < (keyed ? targets.size() - 1 : 1); i++) {
            word(Reference.s4(body, keyed ? words + 8 + 8 * i : words + 4));
        }
        for (int i = 1; i < targets.size(); i++) {
            word(begins.get(targets.get(i)) - one.at);
        }
    }
}
