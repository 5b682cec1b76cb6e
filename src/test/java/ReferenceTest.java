import java.util.Random;

/** Promises 4 to 7: chance files, whole, broken and cut, against what the document's sections 1 and 2 say once more. */
public final class ReferenceTest {
    private static final int PROGRAMS = 1200;
    private static final int BREAKS = 25;
    private static final int[] seen = new int[4];

    public static void main(String[] args) {
        for (int seed = 0; seed < PROGRAMS; seed++) {
            ProgramMaker program = new ProgramMaker(seed + 100000);
            byte[] file = program.file();
            Random chance = new Random(seed);
            RegisterMill mill = new RegisterMill();
            compare("program " + seed, mill, file);
            for (int i = 0; i < BREAKS; i++) {
                compare("program " + seed + " break " + i, mill, broken(program, file, chance));
            }
        }
        System.out.println(seen[0] + " without a FAULT, FAULTS: " + seen[1] + ", " + seen[2] + ", " + seen[3]);
        for (int kind = 0; kind < 4; kind++) {
            Due.that("enough of FAULT " + kind, seen[kind] > PROGRAMS / 4);
        }
        Due.close();
    }

    private static byte[] broken(ProgramMaker program, byte[] file, Random chance) {
        byte[] broken = file.clone();
        int pick = chance.nextInt(10);
        if (pick == 0) {
            return java.util.Arrays.copyOf(file, chance.nextInt(file.length));
        }
        if (pick == 1) {
            return java.util.Arrays.copyOf(file, file.length + 1 + chance.nextInt(3));
        }
        int m = chance.nextInt(program.codes.size());
        int place = chance.nextInt(file.length);
        if (pick > 4) {
            place = program.maker.codePlace(m) - 20 + chance.nextInt(program.codes.get(m).length + 28);
        }
        place = Math.min(place, file.length - 1);
        int how = chance.nextInt(4);
        broken[place] = (byte) (how == 0 ? chance.nextInt(256) : how == 1 ? broken[place] + 1
            : how == 2 ? broken[place] - 1 : file[chance.nextInt(file.length)]);
        return broken;
    }

    private static void compare(String name, RegisterMill mill, byte[] file) {
        Reference reference = new Reference(file);
        int answer = Mills.load(mill, file);
        try {
            reference.read();
            seen[0]++;
            Due.is(name + ": load()", answer, reference.bodies.size());
            Due.is(name + ": place()", mill.place(), -1);
            if (answer == reference.bodies.size()) {
                for (int m = 0; m < answer; m++) {
                    compareStates(name + " method " + m, mill, m, reference.bodies.get(m));
                }
            }
        } catch (Reference.Fault fault) {
            seen[fault.kind]++;
            Due.is(name + ": load()", answer, -fault.kind);
            Due.is(name + ": place()", mill.place(), fault.place);
        }
    }

    private static void compareStates(String name, RegisterMill mill, int m, Reference.Body body) {
        Due.is(name + ": arguments", mill.method(m, 0), body.arguments.length());
        Due.is(name + ": returns", mill.method(m, 1), "VIA".indexOf(body.returns));
        Due.is(name + ": STACK", mill.method(m, 2), body.stack);
        Due.is(name + ": LOCALS", mill.method(m, 3), body.locals);
        Due.is(name + ": code", mill.method(m, 4), body.code.length);
        Due.is(name + ": REGISTERS", mill.method(m, 6), 2 + body.locals + body.stack + body.arguments.length());
        Due.is(name + ": place", mill.method(m, 8), body.place);
        for (int pc = -1; pc <= body.code.length; pc++) {
            String state = body.lengths.containsKey(pc) ? body.states.get(pc) : null;
            Due.is(name + ": opcode", mill.state(m, pc, 1), body.lengths.containsKey(pc) ? body.code[pc] & 0xff : -1);
            int depth = state == null ? -1 : state.indexOf('|');
            Due.is(name + ": depth", mill.state(m, pc, 0), depth);
            Due.that(name + ": begin", state == null == (mill.state(m, pc, 2) == -1));
            for (int i = 0; i <= 50; i++) {
                int due = state != null && i < body.locals ? "-IA".indexOf(state.charAt(depth + 1 + i)) : -1;
                if (i < 50) {
                    Due.is(name + ": LOCAL " + i, mill.state(m, pc, 10 + i), due);
                }
                due = i < depth ? "-IA".indexOf(state.charAt(i)) : -1;
                Due.is(name + ": stack " + i, mill.state(m, pc, 60 + i), due);
            }
        }
    }
}
