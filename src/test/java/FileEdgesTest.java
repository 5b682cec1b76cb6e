import java.util.Arrays;

/**
 * Section 1 with FAULT 1: of each sentence that has a bound, the last value that is let through and the first that
 * is not, at both ends.
 */
public final class FileEdgesTest {
    private static final String FORTY = "abcdefghijabcdefghijabcdefghijabcdefghij";

    public static void main(String[] args) {
        toldNumbers();
        howManyConstants();
        tags();
        textBytes();
        textLengths();
        numbersInConstants();
        numbersAreLookedAtBehindAll();
        thisAndAbove();
        namesOfThisAndAbove();
        howManyMethods();
        methodNumbers();
        methodNames();
        descriptors();
        argumentsAndLocals();
        sameMethods();
        sameLowerByte();
        codeOnce();
        namesLikeCode();
        attributeBytes();
        attributeNames();
        toldOfCode();
        stackAndLocals();
        codeBytes();
        handlers();
        nothingBehind();
        lacks();
        whichFirst();
        Due.close();
    }

    private static void toldNumbers() {
        new Draft().right("a whole file");
        for (int wrong : new int[] {0xcafebabd, 0xcafebabf, 0x4afebabe, 0xbebafeca, 0, -1}) {
            new Draft().w("magic", wrong).fault("magic " + wrong, "magic");
        }
        String[] halves = {"minor", "major", "flags", "interfaces", "fields", "0 flags", "0 handlers"};
        int[] due = {0, 0x31, 0x21, 0, 0, 9, 0};
        for (int i = 0; i < halves.length; i++) {
            new Draft().h(halves[i], due[i]).right(halves[i]);
            for (int wrong : new int[] {due[i] - 1, due[i] + 1, due[i] + 256, due[i] ^ 0x8000}) {
                new Draft().h(halves[i], wrong).fault(halves[i] + " " + wrong, halves[i]);
            }
        }
        // Base 16, as told: not 31 and 21 in base 10.
        new Draft().h("major", 31).fault("major in base 10", "major");
        new Draft().h("flags", 21).fault("flags in base 10", "flags");
    }

    private static void howManyConstants() {
        for (int n : new int[] {0, 1, 102, 103, 256, 65535}) {
            new Draft().h("constants", n).fault(n + " for the CONSTANTS", "constants");
        }
        // One CONSTANT is let through: the FAULT is only where a TYPE is asked for.
        Draft one = new Draft().h("constants", 2);
        for (int i = 2; i <= 10; i++) {
            one.drop("tag " + i).drop("constant " + i).drop("text " + i).drop("second " + i);
        }
        one.fault("one CONSTANT", "this");
        Draft most = new Draft();
        for (int i = 11; i <= 99; i++) {
            most.addInt(i);
        }
        most.right("99 CONSTANTS");
        int last = most.addInt(12345);
        Due.is("the last CONSTANT", last, 100);
        most.right("100 CONSTANTS");
        most.raw("0 bytes", Bytes.of("12 64 57 b1")).w("0 length", 4).w("0 told", 16).right("the last CONSTANT is used");
        most.addInt(1);
        most.fault("101 CONSTANTS", "constants");
    }

    private static void tags() {
        for (int tag = 0; tag < 256; tag++) {
            if (tag != 1 && tag != 3 && tag != 7 && tag != 0xa && tag != 0xc) {
                Draft draft = new Draft();
                draft.addInt(0);
                draft.b("tag 11", tag).fault("tag " + tag, "tag 11");
                new Draft().b("tag 1", tag).fault("tag " + tag, "tag 1");
            }
        }
        // How many bytes each kind has: behind two of a kind the next tag is found.
        for (int kind = 0; kind < 5; kind++) {
            Draft draft = new Draft();
            for (int i = 0; i < 2; i++) {
                switch (kind) {
                    case 0: draft.addText("abc"); break;
                    case 1: draft.addInt(-1); break;
                    case 2: draft.addType(1); break;
                    case 3: draft.addPair(1, 2); break;
                    default: draft.addMethodConstant(3, 9); break;
                }
            }
            draft.right("two of kind " + kind);
            draft.addInt(5);
            draft.b("tag 13", 2).fault("a tag behind two of kind " + kind, "tag 13");
        }
    }

    private static void textBytes() {
        for (int b = 0; b < 256; b++) {
            for (int i = 0; i < 3; i++) {
                Draft draft = new Draft();
                int text = draft.addText("abc");
                byte[] bytes = {'a', 'b', 'c'};
                bytes[i] = (byte) b;
                draft.raw("text " + text, bytes);
                if (b >= 0x01 && b <= 0x7f) {
                    draft.right("byte " + b + " in a TEXT");
                } else {
                    draft.faultAt("byte " + b + " in a TEXT", draft.at("text " + text) + i);
                }
            }
        }
        // Only the TEXT's own bytes: the tag behind it is no byte of it.
        Draft draft = new Draft();
        draft.addText("abc");
        draft.h("constant 11", 4).fault("a TEXT that takes what is behind it", "flags");
        draft = new Draft();
        draft.addText("abc");
        draft.h("constant 11", 2).faultAt("a TEXT that is told too short", draft.at("text 11") + 2);
    }

    private static void textLengths() {
        Draft draft = new Draft();
        draft.addText("");
        draft.right("an empty TEXT");
        draft = new Draft();
        draft.addText("x".repeat(255));
        draft.addText("y".repeat(256));
        draft.addText("z".repeat(6000));
        draft.right("long TEXTS");
        // As many as are left: gone through, to the byte that cannot be; one more: at the file's length.
        draft = new Draft();
        int place = draft.at("text 1");
        byte[] file = Arrays.copyOf(draft.file(), place + 50);
        Arrays.fill(file, place, place + 50, (byte) 'a');
        file[place + 30] = 0;
        file[place - 2] = 0;
        file[place - 1] = 50;
        Mills.loadIs("as many bytes as are left", file, -1, place + 30);
        file[place - 1] = 51;
        Mills.loadIs("one byte more than is left", file, -1, place + 50);
        file[place - 2] = (byte) 255;
        file[place - 1] = (byte) 255;
        Mills.loadIs("far more bytes than are left", file, -1, place + 50);
        file[place - 2] = 0;
        file[place - 1] = 50;
        file[place + 30] = 'a';
        Mills.loadIs("all that is left, then nothing", file, -1, place + 50);
    }

    /** Each number in a CONSTANT: the first and the last CONSTANT of its kind, none, and others. */
    private static void numbersInConstants() {
        String[] pieces = {"constant 11", "constant 12", "second 12", "constant 13", "second 13"};
        int[][] right = {{1, 2, 5, 6, 7, 14}, {3, 4, 11, 15}, {9, 16}, {1, 14}, {1, 14}};
        for (int k = 0; k < pieces.length; k++) {
            for (int i = 0; i <= 17; i++) {
                boolean fits = false;
                for (int one : right[k]) {
                    fits |= one == i;
                }
                fits |= (k == 0 || k >= 3) && (i == 1 || i == 2 || i >= 5 && i <= 7 || i == 14);
                fits |= k == 2 && i == 13;
                Draft draft = withMore().h(pieces[k], i);
                if (fits) {
                    draft.right(pieces[k] + " is " + i);
                } else {
                    draft.fault(pieces[k] + " is " + i, pieces[k]);
                }
            }
            for (int i : new int[] {255, 256 + 1, 0x8001, 65535}) {
                withMore().h(pieces[k], i).fault(pieces[k] + " is " + i, pieces[k]);
            }
        }
    }

    /** 11 TYPE, 12 METHOD, 13 PAIR; behind them, so that they may be told before they come, 14 TEXT, 15 TYPE, 16 PAIR. */
    private static Draft withMore() {
        Draft draft = new Draft();
        draft.addType(14);
        draft.addMethodConstant(15, 16);
        draft.addPair(14, 14);
        draft.addText("x");
        draft.addType(14);
        draft.addPair(1, 1);
        return draft;
    }

    private static void numbersAreLookedAtBehindAll() {
        withMore().h("constant 11", 0).h("constant 12", 0).fault("from the first on", "constant 11");
        withMore().h("second 12", 0).h("constant 13", 0).fault("from the first on", "second 12");
        withMore().h("constant 12", 0).h("second 12", 0).fault("its first number first", "constant 12");
        withMore().h("constant 11", 0).b("tag 16", 2).fault("a tag before it", "tag 16");
        withMore().h("constant 11", 0).b("text 14", 0).fault("a TEXT's byte before it", "text 14");
        withMore().h("constant 16", 0).h("flags", 0).fault("before all behind the CONSTANTS", "constant 16");
        withMore().h("constant 11", 0).cutLacks("what lacks in the CONSTANTS before it", "second 16", 1);
        Draft draft = withMore().h("second 16", 0);
        Mills.loadIs("before what lacks behind them", Arrays.copyOf(draft.file(), draft.at("flags")), -1, draft.at("second 16"));
        // The first CONSTANT of all, of each kind that tells others.
        for (int kind = 0; kind < 3; kind++) {
            for (int wrong = 0; wrong < 2; wrong++) {
                Bytes first = kind == 0 ? new Bytes().b(7).h(2) : new Bytes().b(kind == 1 ? 0xc : 0xa).h(kind == 1 ? 2 : 4, kind == 1 ? 6 : 10);
                Draft shifted = shifted(first.all());
                if (wrong == 0) {
                    shifted.right("CONSTANT 1 of kind " + kind);
                } else {
                    byte[] bytes = first.all();
                    bytes[bytes.length - 1] = 1;
                    shifted.raw("first", bytes).faultAt("CONSTANT 1 of kind " + kind, 10 + bytes.length - 2);
                }
            }
        }
        // Names and descriptors in CONSTANTS that nothing asks for may be whatever.
        draft = new Draft();
        int odd = draft.addText("/; (");
        draft.addMethodConstant(draft.addType(odd), draft.addPair(odd, odd));
        draft.right("odd names that are not asked for");
    }

    /** A file with another CONSTANT before all those of a draft, whose numbers are one more then. */
    private static Draft shifted(byte[] first) {
        Draft draft = new Draft().before("tag 1", "first", first).h("constants", 12);
        draft.h("constant 3", 2).h("constant 4", 3).h("constant 9", 6).h("second 9", 7).h("constant 10", 4).h("second 10", 10);
        return draft.h("this", 4).h("above", 5).h("0 name", 6).h("0 descriptor", 7).h("0 code", 8);
    }

    private static void thisAndAbove() {
        for (String piece : new String[] {"this", "above"}) {
            for (int i : new int[] {0, 1, 2, 5, 8, 9, 10, 11, 255, 256 + 3, 65535}) {
                new Draft().h(piece, i).fault(piece + " is " + i, piece);
            }
        }
        new Draft().h("this", Draft.ABOVE_TYPE).h("above", Draft.OWN_TYPE).right("the other way round");
        new Draft().h("above", Draft.OWN_TYPE).fault("above is this", "above");
        // The same by bytes, in another TEXT and another TYPE; one byte more or other is not the same.
        String[] names = {"T", "S", "TT", "t"};
        for (String name : names) {
            Draft draft = new Draft();
            draft.h("above", draft.addType(draft.addText(name)));
            if (name.equals("T")) {
                draft.fault("above has the name of this", "above");
            } else {
                draft.right("above is " + name);
            }
        }
        new Draft().text(Draft.ABOVE, "").h("this", 0).fault("this before above", "this");
    }

    private static void namesOfThisAndAbove() {
        String[] right = {"a", "z", "A", "Z", "0", "9", "_", "$", "a/b", "a/b/c/d", "_/$", "0/9", FORTY, FORTY.substring(1),
            FORTY.substring(0, 38) + "/b", "a/" + FORTY.substring(2), "Code", "I"};
        String[] wrong = {"", "/", "//", "a/", "/a", "a//b", "a///b", FORTY + "a", FORTY + FORTY, FORTY.substring(0, 39) + "/",
            "/" + FORTY.substring(1), "a.b", "La;"};
        for (String name : right) {
            new Draft().text(Draft.OWN, name).right("this is " + name);
            new Draft().text(Draft.ABOVE, name).right("above is " + name);
        }
        for (String name : wrong) {
            new Draft().text(Draft.OWN, name).fault("this is " + name, "this");
            new Draft().text(Draft.ABOVE, name).fault("above is " + name, "above");
        }
        for (int b = 1; b < 0x80; b++) {
            String name = "a" + (char) b + "b";
            boolean fits = isNameByte(b) || b == '/';
            Draft draft = new Draft().text(Draft.OWN, name);
            if (fits) {
                draft.right("byte " + b + " in a name");
            } else {
                draft.fault("byte " + b + " in a name", "this");
            }
        }
    }

    private static boolean isNameByte(int b) {
        return "abcdefghijklmnopqrstuvwxyzABCDEFGHIJKLMNOPQRSTUVWXYZ0123456789_$".indexOf(b) >= 0;
    }

    private static void howManyMethods() {
        for (int n : new int[] {0, 9, 10, 256, 257, 65535}) {
            new Draft().h("methods", n).fault(n + " METHODS", "methods");
        }
        Draft draft = new Draft();
        for (int m = 1; m < 8; m++) {
            draft.addMethod(draft.addText("f" + m), Draft.DESCRIPTOR, 0, 0, Bytes.of("b1"));
            draft.right(m + 1 + " METHODS");
        }
        draft.addMethod(draft.addText("f8"), Draft.DESCRIPTOR, 0, 0, Bytes.of("b1"));
        draft.fault("9 METHODS", "methods");
        new Draft().h("methods", 2).fault("one METHOD told too many", "attributes");
        draft = new Draft();
        draft.addMethod(draft.addText("g"), Draft.DESCRIPTOR, 0, 0, Bytes.of("b1"));
        // What is the second METHOD's flags is then how many ATTRIBUTES there are, the first with the name 11.
        draft.h("methods", 1).h("1 name", Draft.OWN_TYPE).fault("one METHOD told too few", "1 name");
    }

    private static void methodNumbers() {
        for (String piece : new String[] {"0 name", "0 descriptor", "0 code"}) {
            for (int i : new int[] {0, 3, 4, 8, 9, 10, 11, 256 + 5, 65535}) {
                new Draft().h(piece, i).fault(piece + " is " + i, piece);
            }
        }
        Draft draft = new Draft();
        draft.h("0 name", draft.addText("last")).right("the last CONSTANT for a name");
        new Draft().h("0 name", Draft.OWN).right("the first CONSTANT for a name");
    }

    private static void methodNames() {
        String thirty = FORTY.substring(0, 30);
        for (String name : new String[] {"a", "Z", "0", "_", "$", thirty, thirty.substring(1), "Code", "I", "V"}) {
            new Draft().text(Draft.NAME, name).right("METHOD " + name);
        }
        for (String name : new String[] {"", thirty + "a", FORTY, "a/b", "/", "<init>", "<clinit>"}) {
            new Draft().text(Draft.NAME, name).fault("METHOD " + name, "0 name");
        }
        for (int b = 1; b < 0x80; b++) {
            for (String name : new String[] {"" + (char) b, "a" + (char) b}) {
                Draft draft = new Draft().text(Draft.NAME, name);
                if (isNameByte(b)) {
                    draft.right("byte " + b + " in a METHOD's name");
                } else {
                    draft.fault("byte " + b + " in a METHOD's name", "0 name");
                }
            }
        }
    }

    private static void descriptors() {
        String[] codes = {"b1", "03 ac", "01 b0"};
        String[] returns = {"V", "I", "[I"};
        String[] inside = {"", "I", "[I", "I[I", "[II", "IIIIIIII", "[I[I[I[I[I[I[I[I", "I[II[II[II[I", "IIIIIII[I"};
        for (String in : inside) {
            for (int i = 0; i < 3; i++) {
                descriptorIs("(" + in + ")" + returns[i], codes[i], true);
            }
        }
        String[] wrong = {"", "(", ")", "()", "V", "I", "(I", "(I)", "()VV", "()VI", "()IV", "()II", "()[IV", "()[II", "()[", "()[[I",
            "()[V", "()J", "()Z", "()L", "(V)V", "(J)V", "([)V", "([V)V", "([[I)V", "(I[)V", "(I;)V", "((I)V", "(I))V", " ()V", "()V ",
            "(IIIIIIIII)V", "(IIIIIIII[I)V", "([I[I[I[I[I[I[I[I[I)V", "([I[I[I[I[I[I[I[II)V", "(i)V", "()v", "[()V", "(I,I)V",
            "(IIIIIIII", "([I[I[I[I[I[I[I[I", "(" + "I".repeat(300) + ")V"};
        for (String one : wrong) {
            descriptorIs(one, "b1", false);
        }
    }

    private static void descriptorIs(String descriptor, String code, boolean fits) {
        byte[] bytes = Bytes.of(code);
        Draft draft = new Draft().text(Draft.DESCRIPTOR, descriptor).h("0 locals", 16).raw("0 bytes", bytes).w("0 length", bytes.length)
            .w("0 told", 12 + bytes.length);
        if (fits) {
            draft.right("descriptor " + descriptor);
        } else {
            draft.fault("descriptor " + descriptor, "0 descriptor");
        }
    }

    private static void argumentsAndLocals() {
        for (int arguments = 0; arguments <= 8; arguments++) {
            for (String type : new String[] {"I", "[I"}) {
                String descriptor = "(" + type.repeat(arguments) + ")V";
                new Draft().text(Draft.DESCRIPTOR, descriptor).h("0 locals", arguments).right(arguments + " LOCALS, " + descriptor);
                if (arguments > 0) {
                    new Draft().text(Draft.DESCRIPTOR, descriptor).h("0 locals", arguments - 1)
                        .fault(arguments - 1 + " LOCALS, " + descriptor, "0 locals");
                    new Draft().text(Draft.DESCRIPTOR, descriptor).h("0 locals", 0).h("0 stack", 41)
                        .fault("STACK stands before LOCALS", "0 stack");
                }
            }
        }
    }

    private static void sameMethods() {
        // The second same one, by bytes in other TEXTS, next to the first and as the last of eight.
        for (int between : new int[] {0, 1, 6}) {
            for (int other = 0; other < 3; other++) {
                Draft draft = new Draft();
                for (int m = 1; m <= between; m++) {
                    draft.addMethod(draft.addText("f" + m), Draft.DESCRIPTOR, 0, 0, Bytes.of("b1"));
                }
                int name = draft.addText(other == 1 ? "F" : "f");
                int descriptor = draft.addText(other == 2 ? "(I)V" : "()V");
                draft.addMethod(name, descriptor, 0, 1, Bytes.of("b1"));
                if (other == 0) {
                    draft.fault("the same METHOD twice", between + 1 + " descriptor");
                } else {
                    draft.right("not the same METHOD twice: " + other);
                }
            }
        }
        Draft three = new Draft();
        three.addMethod(Draft.NAME, Draft.DESCRIPTOR, 0, 0, Bytes.of("b1"));
        three.addMethod(Draft.NAME, Draft.DESCRIPTOR, 0, 0, Bytes.of("b1"));
        three.fault("the second of three", "1 descriptor");
        // What begins another name or descriptor is not the same.
        Draft draft = new Draft();
        draft.addMethod(draft.addText("ff"), Draft.DESCRIPTOR, 0, 0, Bytes.of("b1"));
        draft.addMethod(Draft.NAME, draft.addText("()[I"), 1, 0, Bytes.of("01 b0"));
        draft.addMethod(Draft.NAME, draft.addText("()I"), 1, 0, Bytes.of("03 ac"));
        draft.right("names and descriptors that begin alike");
    }

    /** Texts whose lengths differ by 256 are not the same, though the lower byte of their lengths is. */
    private static void sameLowerByte() {
        for (int more : new int[] {255, 256, 257}) {
            for (int which = 0; which < 3; which++) {
                Draft draft = new Draft();
                int name = which == 0 ? draft.addText("f" + "x".repeat(more)) : Draft.NAME;
                int descriptor = which == 1 ? draft.addText("()V" + "x".repeat(more)) : Draft.DESCRIPTOR;
                int type = which == 2 ? draft.addType(draft.addText("T" + "x".repeat(more))) : Draft.OWN_TYPE;
                int call = draft.addMethodConstant(type, draft.addPair(name, descriptor));
                byte[] code = Bytes.of(String.format("b1 b800%02x", call));
                draft.raw("0 bytes", code).w("0 length", code.length).w("0 told", 12 + code.length);
                Mills.loadIs("a name that is longer by " + more, draft.file(), -2, draft.at("0 bytes") + 1);
            }
        }
    }

    private static void codeOnce() {
        Draft none = new Draft().h("0 attributes", 0);
        for (String piece : new String[] {"code", "told", "stack", "locals", "length", "bytes", "handlers", "inner"}) {
            none.drop("0 " + piece);
        }
        none.fault("no ATTRIBUTES", "0 attributes");
        new Draft().h("0 code", Draft.NAME).fault("no Code among them, behind them", "0 attributes");
        Draft other = new Draft().h("0 code", Draft.NAME).h("0 stack", 99).w("0 length", 0);
        other.fault("whatever is in another ATTRIBUTE", "0 attributes");
        // Looked at behind all of them: what is wrong in them comes first.
        Draft wrong = new Draft().h("0 code", Draft.NAME).h("0 attributes", 2);
        wrong.before("attributes", "0 more", new Bytes().h(0).all()).before("attributes", "0 size", new Bytes().w(0).all());
        wrong.fault("a name that is none before no Code", "0 more");
        wrong.h("0 more", Draft.NAME).fault("no Code behind two", "0 attributes");
        wrong.w("0 size", 3).lacks("what lacks before no Code");
        Draft two = new Draft().h("0 attributes", 2).addCode("0 second ", 2, 2, Bytes.of("b1"));
        two.fault("a second Code", "0 second code");
        two.h("0 second code", Draft.NAME).right("a second one that is not Code");
        two.h("0 second code", Draft.CODE).w("0 second told", -1).fault("a second Code before what is told of it", "0 second code");
        two = new Draft().h("0 attributes", 2).addCode("0 second ", 2, 2, Bytes.of("b1"));
        two.h("0 code", Draft.NAME).right("Code is the second one");
        two.h("0 attributes", 3).addCode("0 third ", 2, 2, Bytes.of("b1")).fault("a second Code, third in all", "0 third code");
        two.h("0 third code", 0).fault("a name that is none", "0 third code");
        // Each METHOD has one of its own.
        Draft each = new Draft();
        each.addMethod(each.addText("g"), Draft.DESCRIPTOR, 0, 0, Bytes.of("b1"));
        each.h("1 code", Draft.NAME).fault("the second METHOD without Code", "1 attributes");
    }

    private static void namesLikeCode() {
        for (String name : new String[] {"", "Cod", "Codes", "code", "CODE", "Coda", "Dode", "Cede", "Cole", " Code"}) {
            Draft draft = new Draft();
            int text = draft.addText(name);
            draft.h("0 code", text).fault("named " + name, "0 attributes");
        }
        Draft draft = new Draft();
        int text = draft.addText("Code");
        draft.h("0 code", text).right("Code in another TEXT");
        draft.h("0 attributes", 2).addCode("0 second ", 0, 0, Bytes.of("b1")).fault("Code twice in two TEXTS", "0 second code");
    }

    private static void attributeBytes() {
        // Behind the METHODS: as many as are left, and one more.
        for (int n : new int[] {0, 1, 2, 255, 256, 3000}) {
            Draft draft = new Draft().h("attributes", 1).h("attribute", Draft.OWN).w("size", n).raw("whatever", new byte[n]);
            draft.right(n + " bytes of an ATTRIBUTE");
            draft.w("size", n + 1).lacks(n + " bytes, one more told");
            if (n > 0) {
                draft.w("size", n - 1).faultAt(n + " bytes, one fewer told", draft.file().length - 1);
            }
        }
        for (int told : new int[] {0x7fffffff, 0x80000000, -1, 0x00010000}) {
            new Draft().h("attributes", 1).h("attribute", Draft.OWN).w("size", told).raw("whatever", new byte[9]).lacks("told " + told);
            new Draft().w("0 told", told).lacks("Code is told " + told);
            new Draft().h("0 code", Draft.OWN).w("0 told", told).lacks("another is told " + told);
        }
        // How many ATTRIBUTES there are is no how many of bytes: they are gone through.
        new Draft().h("attributes", 65535).h("attribute", 0).fault("65535 ATTRIBUTES, the first with no name", "attribute");
        new Draft().h("attributes", 65535).h("attribute", 1).w("size", 0).lacks("65535 ATTRIBUTES, the second lacks");
        Draft many = new Draft().h("attributes", 1000);
        Bytes all = new Bytes();
        for (int i = 0; i < 1000; i++) {
            all.h(Draft.CODE).w(0);
        }
        many.raw("all", all.all()).right("1000 ATTRIBUTES");
    }

    private static void attributeNames() {
        for (int i : new int[] {0, 3, 4, 8, 9, 10, 11, 65535}) {
            new Draft().h("attributes", 1).h("attribute", i).w("size", 0).fault("behind the METHODS, named " + i, "attribute");
            Draft inner = new Draft().h("0 inner", 1).w("0 told", 19);
            inner.before("attributes", "inner name", new Bytes().h(i).all()).before("attributes", "inner size", new Bytes().w(0).all());
            inner.fault("in Code, named " + i, "inner name");
            inner.h("inner name", Draft.CODE).right("in Code, named Code");
        }
    }

    private static void toldOfCode() {
        new Draft().w("0 told", 13).right("told as it is");
        for (int told : new int[] {0, 1, 12, 14, 15}) {
            new Draft().w("0 told", told).fault("Code is told " + told, "0 told");
        }
        // 13 bytes of Code and the file's last two are left.
        new Draft().w("0 told", 15).fault("as many as are left", "0 told");
        new Draft().w("0 told", 16).lacks("one more than is left");
        // Looked at behind it, so what is wrong in it comes first.
        new Draft().w("0 told", 14).h("0 stack", 41).fault("STACK before it", "0 stack");
        new Draft().w("0 told", 12).h("0 handlers", 1).fault("what stands in it before it", "0 handlers");
        new Draft().w("0 told", 14).h("attributes", 1).h("attribute", 0).w("size", 0).fault("before what stands behind it", "0 told");
        new Draft().w("0 told", 100).h("0 stack", 41).lacks("more than is left before all in it");
        // Its own ATTRIBUTES belong to it.
        Draft inner = new Draft().h("0 inner", 1);
        inner.before("attributes", "inner name", new Bytes().h(1).all()).before("attributes", "inner size", new Bytes().w(3).all());
        inner.before("attributes", "inner bytes", new byte[3]);
        for (int told = 20; told <= 24; told++) {
            inner.w("0 told", told);
            if (told == 22) {
                inner.right("Code with an ATTRIBUTE");
            } else {
                inner.fault("Code with an ATTRIBUTE is told " + told, "0 told");
            }
        }
        inner.w("0 told", 22).w("inner size", 6).lacks("an ATTRIBUTE in Code with more bytes than are left");
        inner.w("inner size", 5).fault("an ATTRIBUTE in Code with all that is left", "0 told");
    }

    private static void stackAndLocals() {
        for (String piece : new String[] {"0 stack", "0 locals"}) {
            for (int n : new int[] {0, 1, 39, 40}) {
                new Draft().h(piece, n).right(piece + " " + n);
            }
            for (int n : new int[] {41, 42, 255, 256, 32768, 65535}) {
                new Draft().h(piece, n).fault(piece + " " + n, piece);
            }
        }
    }

    private static void codeBytes() {
        for (int n : new int[] {1, 2, 299, 300}) {
            byte[] code = new byte[n];
            code[n - 1] = (byte) 0xb1;
            new Draft().raw("0 bytes", code).w("0 length", n).w("0 told", 12 + n).right(n + " bytes of code");
        }
        for (int n : new int[] {0, 301, 302, 600}) {
            byte[] code = new byte[n];
            new Draft().raw("0 bytes", code).w("0 length", n).w("0 told", 12 + n).fault(n + " bytes of code", "0 length");
        }
        // Out of its bounds it is wrong where it stands, also when it is above what is left; within them it lacks.
        for (int n : new int[] {0, 301, 65536, 0x7fffffff, 0x80000000, -1}) {
            new Draft().w("0 length", n).fault(n + " bytes of code told", "0 length");
        }
        new Draft().w("0 length", 300).lacks("300 bytes of code told");
        // 1 byte of code, two numbers of 0 and the file's last number are left: 7 bytes.
        new Draft().w("0 length", 8).lacks("one byte of code more than is left");
        new Draft().w("0 length", 7).lacks("all that is left is code, then nothing");
        new Draft().w("0 length", 2).fault("one byte of code told too many", "0 told");
    }

    private static void handlers() {
        new Draft().h("0 handlers", 1).fault("handlers", "0 handlers");
        new Draft().h("0 handlers", 256).fault("handlers", "0 handlers");
    }

    private static void nothingBehind() {
        for (int n : new int[] {1, 2, 5, 20}) {
            Draft draft = new Draft().raw("behind", new byte[n]);
            draft.fault(n + " bytes behind all", "behind");
        }
        Draft draft = new Draft().h("attributes", 1).h("attribute", 1).w("size", 1).b("whatever", 7).b("behind", 0);
        draft.fault("a byte behind the ATTRIBUTES", "behind");
    }

    /** Each file that lacks its end has its FAULT at its length, wherever it ends. */
    private static void lacks() {
        Draft draft = withMore();
        draft.addMethod(draft.addText("g"), draft.addText("(I[I)I"), 3, 4, Bytes.of("1a 04 60 ac"));
        draft.h("0 inner", 1).w("0 told", 22).before("1 flags", "inner", new Bytes().h(1).w(3).b(1, 2, 3).all());
        draft.h("attributes", 2).raw("more", new Bytes().h(2).w(1).b(9).h(7).w(0).all());
        draft.right("a larger file");
        byte[] file = draft.file();
        for (int n = 0; n < file.length; n++) {
            Mills.loadIs("the first " + n + " bytes", Arrays.copyOf(file, n), -1, n);
        }
        Mills.loadIs("no byte", new byte[0], -1, 0);
        Mills.loadIs("three bytes that cannot be", new byte[] {9, 9, 9}, -1, 3);
        Mills.loadIs("four bytes that cannot be", new byte[] {9, 9, 9, 9}, -1, 0);
        Mills.loadIs("one byte of minor", new byte[] {(byte) 0xca, (byte) 0xfe, (byte) 0xba, (byte) 0xbe, 9}, -1, 5);
        // The largest file that 512 calls can feed and look at.
        Draft large = new Draft().h("attributes", 1).h("attribute", 1).w("size", 10000).raw("whatever", new byte[10000]);
        large.right("a file of more than 10000 bytes");
    }

    private static void whichFirst() {
        String[] order = {"magic", "minor", "major", "constants", "tag 1", "constant 3", "flags", "this", "above", "interfaces", "fields",
            "methods", "0 flags", "0 name", "0 descriptor", "0 code", "0 stack", "0 locals", "0 length", "0 handlers"};
        for (int i = 0; i < order.length; i++) {
            Draft draft = new Draft();
            for (int k = i; k < order.length; k++) {
                byte[] bytes = new byte[order[k].equals("magic") || order[k].equals("0 length") ? 4 : order[k].startsWith("tag") ? 1 : 2];
                Arrays.fill(bytes, (byte) 0xee);
                draft.raw(order[k], bytes);
            }
            draft.fault("all wrong from " + order[i] + " on", order[i]);
        }
    }
}
