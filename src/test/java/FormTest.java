import java.lang.management.ManagementFactory;
import java.lang.reflect.Constructor;
import java.lang.reflect.Field;
import java.lang.reflect.Method;
import java.lang.reflect.Modifier;
import java.nio.file.Files;
import java.nio.file.Path;
import java.util.ArrayList;
import java.util.HashMap;
import java.util.List;
import java.util.Map;
import java.util.Random;
import java.util.TreeSet;
import java.util.regex.Pattern;

/** The face, the form of the program, chance calls in chance states, and how much room a run of calls takes. */
public final class FormTest {
    private static final String[] FACE = {
        "int feed(int,int,int,int,int)", "int end(int)", "int load()", "int place()", "int method(int,int)", "int state(int,int,int)",
        "int unit(int,int)", "int size()", "int out(int)", "int make(int)", "int length(int)", "long get(int,int)",
        "int put(int,int,int)", "int arg(int,int)", "int run(int,int,int)", "int told(int)", "int clear()", "int check()"
    };

    public static void main(String[] args) throws Exception {
        face();
        source();
        library();
        callsWithin();
        for (int seed = 0; seed < 400; seed++) {
            chanceCalls(seed);
        }
        room();
        Due.close();
    }

    private static void face() {
        TreeSet<String> due = new TreeSet<>(List.of(FACE));
        TreeSet<String> names = new TreeSet<>();
        for (Method one : RegisterMill.class.getDeclaredMethods()) {
            if (Modifier.isPublic(one.getModifiers())) {
                StringBuilder types = new StringBuilder();
                for (Class<?> type : one.getParameterTypes()) {
                    types.append(types.length() == 0 ? "" : ",").append(type.getName());
                }
                Due.that(one.getName(), due.remove(one.getReturnType() + " " + one.getName() + "(" + types + ")"));
                names.add(one.getName());
            } else {
                Due.that("private " + one, Modifier.isPrivate(one.getModifiers()));
            }
        }
        Due.that("all of " + due, due.isEmpty());
        for (Field one : RegisterMill.class.getDeclaredFields()) {
            Due.that("field " + one, Modifier.isPrivate(one.getModifiers()) || one.getName().equals("NONE"));
            Due.that("static " + one, !Modifier.isStatic(one.getModifiers()) || Modifier.isFinal(one.getModifiers()));
        }
        for (Constructor<?> one : RegisterMill.class.getDeclaredConstructors()) {
            Due.that("constructor " + one, Modifier.isPublic(one.getModifiers()) && one.getParameterCount() == 0);
        }
        Due.that("final", Modifier.isFinal(RegisterMill.class.getModifiers()));
        int classes = 1;
        for (Class<?> inner : RegisterMill.class.getDeclaredClasses()) {
            classes++;
            Due.that("static " + inner, Modifier.isStatic(inner.getModifiers()) && !Modifier.isPublic(inner.getModifiers()));
            int fields = 0;
            for (Field one : inner.getDeclaredFields()) {
                fields += Modifier.isStatic(one.getModifiers()) ? 0 : 1;
            }
            Due.that("few fields in " + inner, fields <= 20);
            for (Method one : inner.getDeclaredMethods()) {
                Due.that("name " + one, !names.contains(one.getName()));
                Due.that("parameters " + one, one.getParameterCount() <= 7);
            }
        }
        Due.that("few classes", classes <= 12);
    }

    private static void source() throws Exception {
        String text = Files.readString(Path.of("src/main/java/RegisterMill.java"));
        String code = text.replaceAll("(?s)/\\*.*?\\*/", "").replaceAll("//[^\n]*", "");
        for (String word : new String[] {"throw", "throws", "try", "catch", "synchronized", "assert", "instanceof", "random", "System\\.out",
            "hashCode", "toString", "equals", "currentTimeMillis", "nanoTime", "package", "record", "yield", "native", "volatile"}) {
            Due.that("no " + word, !Pattern.compile("\\b" + word + "\\b").matcher(code).find());
        }
        Due.that("no lambda", !code.contains("->") && !code.contains("::"));
        Due.that("one import", code.split("\\bimport\\b").length == 2 && code.contains("import java.util.Arrays;"));
        Due.that("no Exact", !code.contains("Exact"));
        int start = 0;
        String[] lines = code.split("\n");
        for (int i = 0; i < lines.length; i++) {
            if (lines[i].matches("( {4}| {8})\\w.*\\) \\{")) {
                start = i;
            }
            Due.that("short: " + lines[start], !lines[i].matches("( {4}| {8})\\}") || i - start <= 60 || lines[i].startsWith("    }"));
        }
    }

    /** Rules 4 and 5: only what the list has, and static fields that are constants. */
    private static void library() throws Exception {
        String text = Files.readString(Path.of("src/main/java/RegisterMill.java"));
        String code = text.replaceAll("(?s)/\\*.*?\\*/", "").replaceAll("//[^\n]*", "");
        List<String> allowed = List.of("Arrays.fill", "System.arraycopy", "Math.min", "Math.max");
        java.util.regex.Matcher used = Pattern.compile("\\b(Arrays|System|Math|Integer|Long|String|StringBuilder|List|ArrayList|Object|Character)\\b(\\.\\w+)?")
            .matcher(code.replace("import java.util.Arrays;", ""));
        while (used.find()) {
            Due.that("used: " + used.group(), allowed.contains(used.group()));
        }
        List<Class<?>> all = new ArrayList<>(List.of(RegisterMill.class.getDeclaredClasses()));
        all.add(RegisterMill.class);
        for (Class<?> one : all) {
            for (Field field : one.getDeclaredFields()) {
                if (Modifier.isStatic(field.getModifiers())) {
                    Class<?> type = field.getType();
                    Due.that("constant " + field, Modifier.isFinal(field.getModifiers())
                        && (type == int.class || type == long.class || type == boolean.class || type == int[].class));
                }
            }
            for (Constructor<?> constructor : one.getDeclaredConstructors()) {
                Due.that("few parameters: " + constructor, constructor.getParameterCount() <= 7);
            }
            for (Method method : one.getDeclaredMethods()) {
                Due.that("few parameters: " + method, method.getParameterCount() <= 7);
            }
        }
        Due.that("no initialiser block", !Pattern.compile("\\bstatic\\s*\\{").matcher(code).find());
        Due.that("no cast to a class", !Pattern.compile("\\((StackFile|Method|Flow|RegisterCode|Names|RegisterFile|Digest|Heap|StackRunner|RegisterRunner|Checker)\\)")
            .matcher(code).find());
    }

    /** Rules 8 and 11: no recursion, and calls at most eight deep, as javap tells them. */
    private static void callsWithin() throws Exception {
        Path classes = Path.of(RegisterMill.class.getProtectionDomain().getCodeSource().getLocation().toURI());
        List<String> arguments = new ArrayList<>(List.of("-c", "-p"));
        try (java.nio.file.DirectoryStream<Path> files = Files.newDirectoryStream(classes, "RegisterMill*.class")) {
            for (Path file : files) {
                arguments.add(file.toString());
            }
        }
        java.io.StringWriter text = new java.io.StringWriter();
        java.io.PrintWriter out = new java.io.PrintWriter(text);
        int answer = java.util.spi.ToolProvider.findFirst("javap").orElseThrow().run(out, out, arguments.toArray(new String[0]));
        Due.is("javap", answer, 0);
        Map<String, TreeSet<String>> calls = new HashMap<>();
        String owner = "";
        String method = "";
        for (String line : text.toString().split("\n")) {
            java.util.regex.Matcher head = Pattern.compile("class (RegisterMill[\\w$]*) ?.*\\{").matcher(line);
            java.util.regex.Matcher name = Pattern.compile("^  [\\w .$\\[\\]]*?([\\w$]+)\\(.*\\);$").matcher(line);
            java.util.regex.Matcher call = Pattern.compile("invoke\\w+ .*// Method (?:([\\w$/]+)\\.)?\"?(\\w+|<init>)\"?:").matcher(line);
            if (head.find()) {
                owner = head.group(1);
            } else if (name.find()) {
                method = owner + "." + name.group(1);
                calls.putIfAbsent(method, new TreeSet<>());
            } else if (call.find()) {
                String to = call.group(1) == null ? owner : call.group(1);
                if (to.startsWith("RegisterMill")) {
                    calls.get(method).add(to + "." + (call.group(2).equals("<init>") ? to : call.group(2)));
                }
            }
        }
        Due.that("methods: " + calls.size(), calls.size() > 100);
        for (String one : calls.keySet()) {
            int deep = depthOf(one, calls, new ArrayList<>());
            Due.that(one + " goes " + deep + " deep", deep <= 8);
        }
    }

    private static int depthOf(String method, Map<String, TreeSet<String>> calls, List<String> open) {
        if (open.contains(method)) {
            Due.that("recursion: " + open, false);
            return 0;
        }
        open.add(method);
        int deep = 0;
        for (String one : calls.getOrDefault(method, new TreeSet<>())) {
            deep = Math.max(deep, depthOf(one, calls, open));
        }
        open.remove(method);
        return deep + 1;
    }

    private static int some(Random chance) {
        int[] edges = {0, 1, -1, 2, 7, 8, 9, 10, 20, 60, 61, 300, 2000, 100000, 100001, Integer.MAX_VALUE, Integer.MIN_VALUE, 0xcafebabe};
        int pick = chance.nextInt(4);
        return pick == 0 ? edges[chance.nextInt(edges.length)] : pick == 1 ? chance.nextInt() : chance.nextInt(12) - 1;
    }

    private static void chanceCalls(int seed) {
        Random chance = new Random(seed);
        RegisterMill mill = new RegisterMill();
        List<String> calls = new ArrayList<>();
        try {
            for (int i = 0; i < 512; i++) {
                int pick = chance.nextInt(40);
                calls.add(String.valueOf(pick));
                call(mill, chance, pick);
                Due.is("check()", mill.check(), 1);
            }
        } catch (RuntimeException | Error e) {
            e.printStackTrace(System.out);
            Due.that("seed " + seed + ": no call throws: " + calls, false);
        }
    }

    private static void call(RegisterMill mill, Random chance, int pick) {
        int a = some(chance);
        int b = some(chance);
        int c = some(chance);
        switch (pick) {
            case 0: mill.feed(a, b, c, a, b); break;
            case 1: mill.end(a); break;
            case 2: mill.load(); break;
            case 3: mill.place(); break;
            case 4: case 5: mill.method(a, b); break;
            case 6: case 7: mill.state(a, b, c); break;
            case 8: mill.unit(a, b); break;
            case 9: mill.size(); break;
            case 10: mill.out(a); break;
            case 11: mill.make(a); break;
            case 12: mill.length(a); break;
            case 13: mill.get(a, b); break;
            case 14: mill.put(a, b, c); break;
            case 15: case 16: case 17: mill.arg(a, b); break;
            case 18: case 19: case 20: case 21: mill.run(chance.nextInt(3), chance.nextInt(4), chance.nextInt(500)); break;
            case 22: mill.run(a, b, c); break;
            case 23: mill.told(a); break;
            case 24: mill.clear(); break;
            case 25: case 26: {
                byte[] file = new ProgramMaker(chance.nextInt()).file();
                if (chance.nextInt(3) == 0) {
                    file[chance.nextInt(file.length)] = (byte) chance.nextInt();
                }
                Mills.load(mill, file);
                break;
            }
            default: mill.state(chance.nextInt(3), chance.nextInt(100), chance.nextInt(110)); break;
        }
    }

    /** What a constructor makes, and all calls behind it, in bytes; an element is 8 of them at the most. */
    private static void room() {
        com.sun.management.ThreadMXBean bean = (com.sun.management.ThreadMXBean) ManagementFactory.getThreadMXBean();
        byte[] file = new ProgramMaker(11).file();
        RegisterMill warm = new RegisterMill();
        Mills.load(warm, file);
        warm.run(1, 0, 1000);
        warm.check();
        long thread = Thread.currentThread().getId();
        bean.getThreadAllocatedBytes(thread);
        long before = bean.getThreadAllocatedBytes(thread);
        RegisterMill mill = new RegisterMill();
        long made = bean.getThreadAllocatedBytes(thread);
        for (int i = 0; i < 30; i++) {
            for (int k = 0; k < file.length; k += 20) {
                mill.feed(k, k, k, k, k);
            }
            mill.load();
            mill.run(i % 2, 0, 1000);
            mill.make(3);
            mill.check();
        }
        long after = bean.getThreadAllocatedBytes(thread);
        Due.that("a constructor makes " + (made - before), made - before < 2000000);
        Due.that("calls make " + (after - made), after - made < 2000);
    }
}
