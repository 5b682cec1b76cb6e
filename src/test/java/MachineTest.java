import java.lang.reflect.InvocationTargetException;
import java.lang.reflect.Method;
import java.util.Arrays;
import java.util.Random;

/**
 * Promises 4 and 16, 19: chance programs, in stack code and in register code, against the Java machine, which reads
 * the same form of files: what it verifies has no FAULT, and both answer the same.
 */
public final class MachineTest {
    private static final int PROGRAMS = 4000;
    private static int loads;
    private static int refused;
    private static int results;
    private static int exceptions;

    private static final class Loader extends ClassLoader {
        Class<?> define(byte[] file) {
            return defineClass("T", file, 0, file.length);
        }
    }

    public static void main(String[] args) {
        for (int seed = 0; seed < PROGRAMS; seed++) {
            ProgramMaker program = new ProgramMaker(seed);
            byte[] file = program.file();
            compare("program " + seed, program, file);
            compareBroken("program " + seed, program, file);
        }
        System.out.println(loads + " loaded, " + refused + " refused, " + results + " returned, " + exceptions + " exceptions");
        Due.that("enough loaded", loads > PROGRAMS / 4);
        Due.that("enough refused", refused > PROGRAMS / 20);
        Due.that("enough returned", results > PROGRAMS / 4);
        Due.that("enough exceptions", exceptions > PROGRAMS / 20);
        Due.close();
    }

    private static Class<?> verified(byte[] file) {
        try {
            Class<?> type = new Loader().define(file);
            Class.forName("T", true, type.getClassLoader());
            return type;
        } catch (LinkageError | ClassNotFoundException e) {
            return null;
        }
    }

    private static void compare(String name, ProgramMaker program, byte[] file) {
        RegisterMill mill = new RegisterMill();
        int answer = Mills.load(mill, file);
        Class<?> type = verified(file);
        if (answer == -1) {
            // More than 100 CONSTANTS, 300 bytes: what the machine takes and a STACK FILE may not have.
            return;
        }
        if (answer < 0) {
            refused++;
            Due.is(name + ": FAULT", answer, -3);
            Due.that(name + ": the machine refuses, too", type == null);
            return;
        }
        loads++;
        Due.that(name + ": the machine verifies it", type != null);
        Due.is(name + ": check()", mill.check(), 1);
        if (type != null) {
            runAll(name, program, mill, type);
        }
    }

    private static void compareBroken(String name, ProgramMaker program, byte[] file) {
        Random chance = program.chance;
        byte[] broken = file.clone();
        int m = chance.nextInt(program.codes.size());
        int place = program.maker.codePlace(m) + chance.nextInt(program.codes.get(m).length);
        broken[place] = (byte) (chance.nextInt(2) == 0 ? chance.nextInt(256) : broken[place] + 1);
        RegisterMill mill = new RegisterMill();
        int answer = Mills.load(mill, broken);
        if (answer == -3) {
            Due.that(name + " broken: the machine refuses, too", verified(broken) == null);
        } else if (answer > 0) {
            Due.that(name + " broken: the machine verifies it", verified(broken) != null);
            Due.is(name + " broken: check()", mill.check(), 1);
        }
    }

    private static void runAll(String name, ProgramMaker program, RegisterMill mill, Class<?> type) {
        for (int m = 0; m < program.names.size(); m++) {
            mill.clear();
            String types = ProgramMaker.types(program.descriptors.get(m));
            Object[] arguments = new Object[types.length()];
            int[][] arrays = new int[types.length()][];
            int[] values = new int[types.length()];
            for (int i = 0; i < types.length(); i++) {
                values[i] = program.chance.nextInt(20) - 6;
                if (types.charAt(i) == 'A') {
                    arrays[i] = values[i] < -3 ? null : new int[values[i] + 3];
                    values[i] = values[i] < -3 ? 0 : mill.make(values[i] + 3);
                    arguments[i] = arrays[i];
                } else {
                    arguments[i] = values[i];
                }
                mill.arg(i, values[i]);
            }
            String call = name + " method " + m;
            int made = mill.told(4);
            int kind0 = mill.run(0, m, 20000);
            int[] told0 = {mill.told(0), mill.told(2), mill.told(3), mill.told(4)};
            int[][] after0 = arraysOf(mill, mill.told(4));
            mill.clear();
            for (int i = 0; i < types.length(); i++) {
                if (arrays[i] != null) {
                    mill.make(arrays[i].length);
                }
                mill.arg(i, values[i]);
            }
            int kind1 = mill.run(1, m, 100000);
            if (kind0 == -7) {
                continue;
            }
            Due.is(call + ": both kinds", kind1, kind0);
            Due.that(call + ": both tell the same", Arrays.equals(told0, new int[] {
                mill.told(0), mill.told(2), mill.told(3), mill.told(4)}));
            Due.that(call + ": both leave the same", Arrays.deepEquals(after0, arraysOf(mill, mill.told(4))));
            if (kind0 == -5 || kind0 == -6) {
                continue;
            }
            int due = invoke(type, program.names.get(m), program.descriptors.get(m), arguments);
            Due.is(call + ": as the machine", kind0, due);
            if (kind0 == 1) {
                Due.is(call + ": int", told0[0], (Integer) returned);
            } else if (kind0 == 2) {
                int[] array = (int[]) returned;
                Due.that(call + ": array", array == null ? told0[0] == 0
                    : told0[0] > 0 && Arrays.equals(array, after0[told0[0] - 1]));
            }
            for (int i = 0, next = 0; i < types.length(); i++) {
                if (arrays[i] != null) {
                    Due.that(call + ": argument " + i, Arrays.equals(arrays[i], after0[next++]));
                }
            }
            Due.that(call + ": no array goes", mill.told(4) >= made);
        }
    }

    private static int[][] arraysOf(RegisterMill mill, int count) {
        int[][] all = new int[count][];
        for (int h = 1; h <= count; h++) {
            all[h - 1] = new int[mill.length(h)];
            for (int i = 0; i < all[h - 1].length; i++) {
                all[h - 1][i] = (int) mill.get(h, i);
            }
        }
        return all;
    }

    private static Object returned;

    private static int invoke(Class<?> type, String name, String descriptor, Object[] arguments) {
        String types = ProgramMaker.types(descriptor);
        Class<?>[] classes = new Class<?>[types.length()];
        for (int i = 0; i < classes.length; i++) {
            classes[i] = types.charAt(i) == 'I' ? int.class : int[].class;
        }
        char result = ProgramMaker.result(descriptor);
        try {
            for (Method one : type.getDeclaredMethods()) {
                Class<?> back = result == 'V' ? void.class : result == 'I' ? int.class : int[].class;
                if (one.getName().equals(name) && one.getReturnType() == back
                        && Arrays.equals(one.getParameterTypes(), classes)) {
                    one.setAccessible(true);
                    returned = one.invoke(null, arguments);
                    results++;
                    return result == 'V' ? 0 : result == 'I' ? 1 : 2;
                }
            }
            return -100;
        } catch (InvocationTargetException e) {
            exceptions++;
            Throwable cause = e.getCause();
            return cause instanceof ArithmeticException ? -1 : cause instanceof ArrayIndexOutOfBoundsException ? -2
                : cause instanceof NullPointerException ? -3 : cause instanceof NegativeArraySizeException ? -4 : -101;
        } catch (IllegalAccessException e) {
            return -102;
        }
    }
}
