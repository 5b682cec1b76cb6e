import java.util.Arrays;
import java.util.LinkedHashMap;
import java.util.Map;

/**
 * A STACK FILE in named pieces, one for each number, so that each can be broken by itself and its place asked for.
 * Where nothing is changed it is a file without a FAULT: one METHOD f ()V with the code b1.
 */
final class Draft {
    /** The numbers of the CONSTANTS that are there from the beginning. */
    static final int OWN = 1;
    static final int ABOVE = 2;
    static final int OWN_TYPE = 3;
    static final int ABOVE_TYPE = 4;
    static final int NAME = 5;
    static final int DESCRIPTOR = 6;
    static final int CODE = 7;
    static final int AN_INT = 8;
    static final int PAIR = 9;
    static final int METHOD = 10;

    private Map<String, byte[]> pieces = new LinkedHashMap<>();
    private int constants;
    private int methods;

    Draft() {
        w("magic", 0xcafebabe).h("minor", 0).h("major", 0x31).h("constants", 1);
        h("flags", 0x21).h("this", OWN_TYPE).h("above", ABOVE_TYPE).h("interfaces", 0).h("fields", 0);
        h("methods", 0);
        h("attributes", 0);
        addText("T");
        addText("java/lang/Object");
        addType(OWN);
        addType(ABOVE);
        addText("f");
        addText("()V");
        addText("Code");
        add(3, new Bytes().w(70000));
        addPair(NAME, DESCRIPTOR);
        addMethodConstant(OWN_TYPE, PAIR);
        addMethod(NAME, DESCRIPTOR, 2, 2, new byte[] {(byte) 0xb1});
    }

    Draft raw(String name, byte[] bytes) {
        pieces.put(name, bytes);
        return this;
    }

    Draft b(String name, int value) {
        return raw(name, new Bytes().b(value).all());
    }

    Draft h(String name, int value) {
        return raw(name, new Bytes().h(value).all());
    }

    Draft w(String name, int value) {
        return raw(name, new Bytes().w(value).all());
    }

    Draft drop(String name) {
        pieces.remove(name);
        return this;
    }

    /** A new piece that stands before another one. */
    Draft before(String other, String name, byte[] bytes) {
        Map<String, byte[]> all = new LinkedHashMap<>();
        for (Map.Entry<String, byte[]> one : pieces.entrySet()) {
            if (one.getKey().equals(other)) {
                all.put(name, bytes);
            }
            all.put(one.getKey(), one.getValue());
        }
        pieces = all;
        return this;
    }

    private int add(int tag, Bytes content) {
        constants++;
        before("flags", "tag " + constants, new byte[] {(byte) tag});
        before("flags", "constant " + constants, content.all());
        h("constants", constants + 1);
        return constants;
    }

    /** A TEXT has its length as a piece of its own. */
    int addText(String text) {
        add(1, new Bytes().h(text.length()));
        before("flags", "text " + constants, new Bytes().raw(latin(text)).all());
        return constants;
    }

    private static byte[] latin(String text) {
        return text.getBytes(java.nio.charset.StandardCharsets.ISO_8859_1);
    }

    int addInt(int value) {
        return add(3, new Bytes().w(value));
    }

    int addType(int text) {
        return add(7, new Bytes().h(text));
    }

    int addPair(int name, int descriptor) {
        int number = add(0xc, new Bytes().h(name));
        before("flags", "second " + number, new Bytes().h(descriptor).all());
        return number;
    }

    int addMethodConstant(int type, int pair) {
        int number = add(0xa, new Bytes().h(type));
        before("flags", "second " + number, new Bytes().h(pair).all());
        return number;
    }

    /** Another text for a TEXT that is there. */
    Draft text(int constant, String text) {
        return h("constant " + constant, text.length()).raw("text " + constant, latin(text));
    }

    /** The pieces of METHOD m begin with its number: "0 name", "0 stack", .. */
    Draft addMethod(int name, int descriptor, int stack, int locals, byte[] code) {
        String m = methods + " ";
        half(m + "flags", 9);
        half(m + "name", name);
        half(m + "descriptor", descriptor);
        half(m + "attributes", 1);
        addCode(m, stack, locals, code);
        methods++;
        return h("methods", methods);
    }

    /** A Code behind what METHODS there are, its pieces' names beginning with a text. */
    Draft addCode(String m, int stack, int locals, byte[] code) {
        half(m + "code", CODE);
        before("attributes", m + "told", new Bytes().w(12 + code.length).all());
        half(m + "stack", stack);
        half(m + "locals", locals);
        before("attributes", m + "length", new Bytes().w(code.length).all());
        before("attributes", m + "bytes", code);
        half(m + "handlers", 0);
        return half(m + "inner", 0);
    }

    private Draft half(String name, int value) {
        return before("attributes", name, new Bytes().h(value).all());
    }

    int at(String name) {
        int place = 0;
        for (Map.Entry<String, byte[]> one : pieces.entrySet()) {
            if (one.getKey().equals(name)) {
                return place;
            }
            place += one.getValue().length;
        }
        throw new IllegalArgumentException("no piece " + name);
    }

    byte[] file() {
        Bytes all = new Bytes();
        for (byte[] one : pieces.values()) {
            all.raw(one);
        }
        return all.all();
    }

    void right(String what) {
        Mills.loadIs(what, file(), methods, -1);
    }

    void fault(String what, String piece) {
        Mills.loadIs(what, file(), -1, at(piece));
    }

    void faultAt(String what, int place) {
        Mills.loadIs(what, file(), -1, place);
    }

    void lacks(String what) {
        faultAt(what, file().length);
    }

    /** The file up to a piece, with some of its bytes. */
    void cutLacks(String what, String piece, int bytes) {
        int length = at(piece) + bytes;
        Mills.loadIs(what, Arrays.copyOf(file(), length), -1, length);
    }
}
