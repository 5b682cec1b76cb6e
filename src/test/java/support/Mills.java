/** What tests do with mills again and again. */
final class Mills {
    private Mills() {
    }

    static int feed(RegisterMill mill, byte[] file) {
        int has = 0;
        for (int i = 0; i < file.length; i += 20) {
            int[] words = new int[5];
            for (int k = 0; k < 20; k++) {
                int b = i + k < file.length ? file[i + k] & 0xff : 0;
                words[k / 4] = words[k / 4] << 8 | b;
            }
            has = mill.feed(words[0], words[1], words[2], words[3], words[4]);
        }
        if (file.length % 20 != 0) {
            has = mill.end(file.length % 20);
        }
        return has;
    }

    static int load(RegisterMill mill, byte[] file) {
        feed(mill, file);
        return mill.load();
    }

    static RegisterMill with(byte[] file) {
        RegisterMill mill = new RegisterMill();
        int answer = load(mill, file);
        if (answer < 1) {
            throw new IllegalStateException("load() answered " + answer + " at " + mill.place());
        }
        return mill;
    }

    /** The file that was looked at last, whole or with a FAULT. */
    private static byte[] before = new byte[0];

    /** In a new object, and in one that has loaded another file, or has refused one, before. */
    static void loadIs(String what, byte[] file, int answer, int place) {
        RegisterMill mill = new RegisterMill();
        Due.is(what + ": load()", load(mill, file), answer);
        Due.is(what + ": place()", mill.place(), place);
        if (before.length + file.length < 8000) {
            RegisterMill used = new RegisterMill();
            int first = load(used, before);
            int size = used.size();
            Due.is(what + ": load() behind another one", load(used, file), answer);
            Due.is(what + ": place() behind another one", used.place(), place);
            Due.is(what + ": size()", used.size(), answer > 0 ? mill.size() : first > 0 ? size : 0);
            for (int i = 8; i < 32 && answer > 0; i++) {
                Due.is(what + ": sums of the file", used.out(i), mill.out(i));
            }
        }
        before = file;
    }

    /** One METHOD's code with a FAULT of a kind (0: none) at a byte of it. */
    static void codeIs(String descriptor, int stack, int locals, String hex, int kind, int pc) {
        FileMaker maker = new FileMaker().method("f", descriptor, stack, locals, hex);
        String what = descriptor + " " + stack + " " + locals + ": " + hex;
        loadIs(what, maker.file(), kind == 0 ? 1 : -kind, kind == 0 ? -1 : maker.codePlace(0) + pc);
    }

    static byte[] out(RegisterMill mill) {
        byte[] all = new byte[mill.size()];
        for (int i = 0; i < all.length; i++) {
            all[i] = (byte) mill.out(i);
        }
        return all;
    }

    /** The units of a METHOD, as hex with blanks between. */
    static String units(RegisterMill mill, int m) {
        StringBuilder text = new StringBuilder();
        for (int i = 0; i < mill.method(m, 7); i++) {
            text.append(i == 0 ? "" : " ").append(String.format("%04x", mill.unit(m, i)));
        }
        return text.toString();
    }

    /** The units of a file's one METHOD. */
    static void unitsAre(String descriptor, int stack, int locals, String hex, String due) {
        RegisterMill mill = new RegisterMill();
        int answer = load(mill, FileMaker.one(descriptor, stack, locals, hex));
        String got = answer == 1 ? units(mill, 0) : "load() " + answer + " at " + mill.place();
        String what = descriptor + " " + stack + " " + locals + ": " + hex;
        if (!got.equals(due)) {
            System.out.println(what + "\n  got " + got + "\n  due " + due);
        }
        Due.that(what, got.equals(due));
        Due.is(what + ": check()", mill.check(), 1);
    }
}
