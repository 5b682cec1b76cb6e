/** What tests do with mills again and again. */
final class Mills {
    private Mills() {
    }

    static int feed(RegisterMill mill, byte[] file) {
        int has = 0;
        for (int i = 0; i < file.length; i += 20) {
            int[] words = new int[5];
            for (int k = 0; k < 20; k++) {
                int b = i + k < file.length ? file[i + k] & 0xff : 0;
                words[k / 4] = words[k / 4] << 8 | b;
            }
            has = mill.feed(words[0], words[1], words[2], words[3], words[4]);
        }
        if (file.length % 20 != 0) {
            has = mill.end(file.length % 20);
        }
        return has;
    }

    static int load(RegisterMill mill, byte[] file) {
        feed(mill, file);
        return mill.load();
    }

    static RegisterMill with(byte[] file) {
        RegisterMill mill = new RegisterMill();
        int answer = load(mill, file);
        if (answer < 1) {
            throw new IllegalStateException("load() answered " + answer + " at " + mill.place());
        }
        return mill;
    }

    static void loadIs(String what, byte[] file, int answer, int place) {
        RegisterMill mill = new RegisterMill();
        Due.is(what + ": load()", load(mill, file), answer);
        Due.is(what + ": place()", mill.place(), place);
    }

    static byte[] out(RegisterMill mill) {
        byte[] all = new byte[mill.size()];
        for (int i = 0; i < all.length; i++) {
            all[i] = (byte) mill.out(i);
        }
        return all;
    }

    /** The units of a METHOD, as hex with blanks between. */
    static String units(RegisterMill mill, int m) {
        StringBuilder text = new StringBuilder();
        for (int i = 0; i < mill.method(m, 7); i++) {
            text.append(i == 0 ? "" : " ").append(String.format("%04x", mill.unit(m, i)));
        }
        return text.toString();
    }
}
