import java.util.ArrayList;
import java.util.HashMap;
import java.util.List;
import java.util.Map;

/** Makes a STACK FILE of METHODS. */
final class FileMaker {
    private final Bytes constants = new Bytes();
    private final Map<String, Integer> numbers = new HashMap<>();
    private final List<Bytes> methods = new ArrayList<>();
    private final List<Integer> codeOffsets = new ArrayList<>();
    private int count;
    private final int own;
    private final int above;
    private final String ownName;

    FileMaker() {
        this("T", "java/lang/Object");
    }

    FileMaker(String ownName, String aboveName) {
        this.ownName = ownName;
        own = type(ownName);
        above = type(aboveName);
    }

    private int number(String key, Bytes constant) {
        Integer known = numbers.get(key);
        if (known != null) {
            return known;
        }
        constants.raw(constant.all());
        count++;
        numbers.put(key, count);
        return count;
    }

    int text(String text) {
        return number("text " + text, new Bytes().b(1).text(text));
    }

    int integer(int value) {
        return number("int " + value, new Bytes().b(3).w(value));
    }

    int type(String name) {
        int text = text(name);
        return number("type " + text, new Bytes().b(7).h(text));
    }

    int pair(String name, String descriptor) {
        int first = text(name);
        int second = text(descriptor);
        return number("pair " + first + " " + second, new Bytes().b(0xc).h(first, second));
    }

    int methodOf(String type, String name, String descriptor) {
        int first = type(type);
        int second = pair(name, descriptor);
        return number("method " + first + " " + second, new Bytes().b(0xa).h(first, second));
    }

    int own(String name, String descriptor) {
        return methodOf(ownName, name, descriptor);
    }

    FileMaker method(String name, String descriptor, int stack, int locals, byte[] code) {
        Bytes method = new Bytes().h(9).h(text(name)).h(text(descriptor)).h(1);
        method.h(text("Code")).w(12 + code.length).h(stack).h(locals).w(code.length);
        codeOffsets.add(method.at());
        method.raw(code).h(0).h(0);
        methods.add(method);
        return this;
    }

    FileMaker method(String name, String descriptor, int stack, int locals, String hex) {
        return method(name, descriptor, stack, locals, Bytes.of(hex));
    }

    private Bytes head() {
        Bytes file = new Bytes().w(0xcafebabe).h(0).h(0x31).h(count + 1).raw(constants.all());
        return file.h(0x21).h(own).h(above).h(0).h(0).h(methods.size());
    }

    byte[] file() {
        Bytes file = head();
        for (Bytes method : methods) {
            file.raw(method.all());
        }
        return file.h(0).all();
    }

    /** Where in the file the code of a METHOD begins. */
    int codePlace(int m) {
        int place = head().at();
        for (int i = 0; i < m; i++) {
            place += methods.get(i).at();
        }
        return place + codeOffsets.get(m);
    }

    /** A file with one METHOD. */
    static byte[] one(String descriptor, int stack, int locals, String hex) {
        return new FileMaker().method("f", descriptor, stack, locals, hex).file();
    }
}
