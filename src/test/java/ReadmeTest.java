import java.lang.reflect.Method;
import java.lang.reflect.Modifier;
import java.nio.file.DirectoryStream;
import java.nio.file.Files;
import java.nio.file.Path;
import java.util.HashMap;
import java.util.List;
import java.util.Map;
import java.util.TreeSet;
import java.util.regex.Matcher;
import java.util.regex.Pattern;

/** README.md: each call that it shows answers what stands behind it, and it leaves out no method and no test. */
public final class ReadmeTest {
    private static final String MADE = "RegisterMill mill = new RegisterMill();";
    private static final Pattern CALL = Pattern.compile("mill\\.(\\w+)\\(([^;]*)\\); *// (-?\\w+)(:.*)?");

    private static RegisterMill mill;

    public static void main(String[] args) throws Exception {
        List<String> lines = Files.readAllLines(Path.of("README.md"));
        Map<String, Method> face = face();
        TreeSet<String> shown = new TreeSet<>();
        boolean java = false;
        for (String line : lines) {
            if (line.startsWith("```")) {
                java = line.equals("```java");
            } else if (java && line.equals(MADE)) {
                mill = new RegisterMill();
            } else if (java) {
                shown.add(call(line, face));
            }
        }
        for (String name : face.keySet()) {
            Due.that("README.md shows " + name, shown.contains(name));
        }
        Due.that("README.md tells the command", lines.contains(".ci/run") && Files.isExecutable(Path.of(".ci/run")));
        tests(String.join("\n", lines));
        Due.close();
    }

    private static Map<String, Method> face() {
        Map<String, Method> all = new HashMap<>();
        for (Method one : RegisterMill.class.getDeclaredMethods()) {
            if (Modifier.isPublic(one.getModifiers())) {
                all.put(one.getName(), one);
            }
        }
        return all;
    }

    private static String call(String line, Map<String, Method> face) throws Exception {
        Matcher parts = CALL.matcher(line);
        boolean known = parts.matches() && mill != null && face.containsKey(parts.group(1));
        Due.that("a call and its answer: " + line, known);
        if (!known) {
            return "";
        }
        String[] texts = parts.group(2).isEmpty() ? new String[0] : parts.group(2).split(", ");
        Object[] numbers = new Object[texts.length];
        for (int i = 0; i < texts.length; i++) {
            numbers[i] = number(texts[i]);
        }
        long answer = ((Number) face.get(parts.group(1)).invoke(mill, numbers)).longValue();
        Due.is(line, answer, Long.decode(parts.group(3)));
        return parts.group(1);
    }

    /** A number in base 10 or 16, or one and two times another: where a unit lies. */
    private static int number(String text) {
        Matcher sum = Pattern.compile("(\\d+) \\+ 2 \\* (\\d+)").matcher(text);
        if (sum.matches()) {
            return Integer.parseInt(sum.group(1)) + 2 * Integer.parseInt(sum.group(2));
        }
        return Long.decode(text).intValue();
    }

    private static void tests(String readme) throws Exception {
        try (DirectoryStream<Path> files = Files.newDirectoryStream(Path.of("src/test/java"), "*Test.java")) {
            for (Path file : files) {
                String name = file.getFileName().toString().replace(".java", "");
                Due.that("README.md tells " + name, readme.contains("| `" + name + "` |"));
            }
        }
    }
}
