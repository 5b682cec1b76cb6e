import java.util.Arrays;

/** Section 4 with promises 9 and 10: orders, multiples of 4, what is left out when there is none, and both sums. */
public final class OutEdgesTest {
    private static final String FORTY = "abcdefghij/bcdefghij/bcdefghij/bcdefghij";

    public static void main(String[] args) throws Exception {
        firstAndLastByte();
        header();
        codesAtFour();
        listsAtFour();
        mapAtFour();
        noTypeLists();
        arraysNeeded();
        stringsOnce();
        stringsInOrder();
        typesInOrder();
        protosOnceAndInOrder();
        methodsInOrder();
        mostRegisters();
        threeBytesOfPlace();
        digestOfAllLengths();
        largestAndSmallest();
        fileStays();
        Due.close();
    }

    private static String code(String descriptor) {
        return descriptor.endsWith("V") ? "b1" : descriptor.endsWith("[I") ? "01 b0" : "03 ac";
    }

    private static void same(String what, FileMaker maker, String own, String above) throws Exception {
        ReferenceFile.compareRight(what, maker.file(), own, above);
    }

    private static void same(String what, FileMaker maker) throws Exception {
        same(what, maker, "T", "java/lang/Object");
    }

    private static int word(byte[] file, int place) {
        return file[place] & 0xff | (file[place + 1] & 0xff) << 8 | (file[place + 2] & 0xff) << 16 | file[place + 3] << 24;
    }

    private static int half(byte[] file, int place) {
        return word(file, place) & 0xffff;
    }

    /** Where a line of the MAP is, by its kind; -1 without one. */
    private static int line(byte[] file, int kind) {
        int map = word(file, 52);
        for (int i = 0; i < word(file, map); i++) {
            if (half(file, map + 4 + 12 * i) == kind) {
                return map + 4 + 12 * i;
            }
        }
        return -1;
    }

    private static String string(byte[] file, int i) {
        int place = word(file, word(file, 60) + 4 * i);
        return new String(file, place + 1, file[place], java.nio.charset.StandardCharsets.ISO_8859_1);
    }

    private static String[] strings(byte[] file) {
        String[] all = new String[word(file, 56)];
        for (int i = 0; i < all.length; i++) {
            all[i] = string(file, i);
        }
        return all;
    }

    private static String[] types(byte[] file) {
        String[] all = new String[word(file, 64)];
        for (int i = 0; i < all.length; i++) {
            all[i] = string(file, word(file, word(file, 68) + 4 * i));
        }
        return all;
    }

    private static void textsAre(String what, String[] got, String due) {
        Due.that(what + ": " + String.join(" ", got) + ", due is " + due, String.join(" ", got).equals(due));
    }

    private static void firstAndLastByte() {
        RegisterMill mill = new RegisterMill();
        Due.is("size() without", mill.size(), 0);
        for (int i : new int[] {-1, 0, 1, Integer.MIN_VALUE, Integer.MAX_VALUE}) {
            Due.is("out(" + i + ") without", mill.out(i), -1);
        }
        Mills.load(mill, FileMaker.one("()V", 0, 0, "b1"));
        int size = mill.size();
        Due.is("size()", size, 376);
        Due.is("out(0)", mill.out(0), 0x64);
        Due.is("out(size - 1)", mill.out(size - 1), 0);
        Due.is("out(size - 4)", mill.out(size - 4), 0xfc);
        for (int i : new int[] {-1, size, size + 1, Integer.MIN_VALUE, Integer.MAX_VALUE}) {
            Due.is("out(" + i + ")", mill.out(i), -1);
        }
        // Bytes have no sign: ffffffff in the CLASS.
        Due.is("a byte ff", mill.out(0xa0 + 16), 255);
    }

    private static void header() {
        byte[] file = Mills.out(Mills.with(FileMaker.one("()V", 0, 0, "b1")));
        int[] due = {0x0a786564, 0x00353330};
        Due.is("magic", word(file, 0), due[0]);
        Due.is("magic", word(file, 4), due[1]);
        Due.is("length", word(file, 32), file.length);
        Due.is("header", word(file, 36), 0x70);
        Due.is("order", word(file, 40), 0x12345678);
        Due.is("no links", word(file, 44), 0);
        Due.is("no links", word(file, 48), 0);
        Due.is("no fields", word(file, 80), 0);
        Due.is("no fields", word(file, 84), 0);
        Due.is("DATA to the end", word(file, 104) + word(file, 108), file.length);
        Due.is("one CLASS", word(file, 96), 1);
        Due.is("STRINGS behind the header", word(file, 60), 0x70);
        Due.is("TYPES behind them", word(file, 68), 0x70 + 4 * word(file, 56));
        Due.is("PROTOS behind them", word(file, 76), word(file, 68) + 4 * word(file, 64));
        Due.is("METHODS behind them", word(file, 92), word(file, 76) + 12 * word(file, 72));
        Due.is("CLASSES behind them", word(file, 100), word(file, 92) + 8 * word(file, 88));
        Due.is("DATA behind them", word(file, 108), word(file, 100) + 32);
        Due.is("no fields in the MAP", line(file, 4), -1);
    }

    /** Codes of an odd and of an even number of units, before a code, before a type list and before STRINGS. */
    private static void codesAtFour() throws Exception {
        for (int first = 0; first < 4; first++) {
            for (int second = 0; second < 4; second++) {
                FileMaker maker = new FileMaker().method("a", "()V", 1, 0, "0357".repeat(first) + "b1");
                maker.method("b", "()V", 1, 0, "0357".repeat(second) + "b1");
                byte[] file = Mills.out(Mills.with(maker.file()));
                RegisterMill mill = Mills.with(maker.file());
                int a = mill.method(0, 9) - 16;
                int b = mill.method(1, 9) - 16;
                Due.is("the first code", a, word(file, 108));
                Due.is("a multiple of 4", b % 4, 0);
                Due.is("behind it", b, a + 16 + 2 * (first + 1) + (first % 2 == 0 ? 2 : 0));
                Due.is("bytes 0 between", first % 2 == 0 ? half(file, b - 2) : 0, 0);
                // STRINGS stand right behind, at any place.
                Due.is("STRINGS", word(file, line(file, 0x2002) + 8), b + 16 + 2 * (second + 1));
                same("codes " + first + " " + second, maker);
            }
        }
    }

    private static void listsAtFour() throws Exception {
        for (int units = 0; units < 4; units++) {
            for (int n = 1; n <= 8; n++) {
                FileMaker maker = new FileMaker().method("a", "()V", 1, 0, "0357".repeat(units) + "b1");
                maker.method("b", "(" + "I".repeat(n) + ")V", 0, 8, "b1").method("c", "([I)V", 0, 8, "b1");
                byte[] file = Mills.out(Mills.with(maker.file()));
                int lists = word(file, line(file, 0x1001) + 8);
                Due.is("how many type lists", word(file, line(file, 0x1001) + 4), 2);
                Due.is("a multiple of 4", lists % 4, 0);
                Due.is("of the second PROTO", word(file, word(file, 76) + 12 + 8), lists);
                Due.is("how many in it", word(file, lists), n);
                int next = lists + 4 + 2 * n + (n % 2 == 1 ? 2 : 0);
                Due.is("of the third PROTO", word(file, word(file, 76) + 24 + 8), next);
                Due.is("how many in it", word(file, next), 1);
                // Behind the last list nothing is filled up.
                Due.is("STRINGS", word(file, line(file, 0x2002) + 8), next + 6);
                same("lists " + units + " " + n, maker);
            }
        }
    }

    private static void mapAtFour() throws Exception {
        boolean[] seen = new boolean[4];
        for (int n = 1; n <= 30; n++) {
            FileMaker maker = new FileMaker().method("x".repeat(n), "()V", 0, 0, "b1");
            byte[] file = Mills.out(Mills.with(maker.file()));
            int classData = word(file, line(file, 0x2000) + 8);
            // u 0, u 0, u 1, u 0, u 0, u 9, u of two bytes.
            int end = classData + 8;
            int map = word(file, 52);
            Due.is("the MAP", map, (end + 3) / 4 * 4);
            for (int i = end; i < map; i++) {
                Due.is("a byte 0 before it", file[i], 0);
            }
            seen[map - end] = true;
            same("a name of " + n, maker);
        }
        for (int i = 0; i < 4; i++) {
            Due.that(i + " bytes before the MAP", seen[i]);
        }
    }

    private static void noTypeLists() throws Exception {
        FileMaker maker = new FileMaker().method("a", "()V", 1, 1, "b1").method("b", "()I", 1, 1, "03 ac").method("c", "()[I", 1, 1, "01 b0");
        byte[] file = Mills.out(Mills.with(maker.file()));
        Due.is("lines without", word(file, word(file, 52)), 10);
        Due.is("no line", line(file, 0x1001), -1);
        for (int i = 0; i < 3; i++) {
            Due.is("no list", word(file, word(file, 76) + 12 * i + 8), 0);
        }
        same("no type lists", maker);
        maker.method("d", "(I)V", 1, 1, "b1");
        file = Mills.out(Mills.with(maker.file()));
        Due.is("lines with one", word(file, word(file, 52)), 11);
        Due.is("one list", word(file, line(file, 0x1001) + 4), 1);
        same("one type list", maker);
        // Two PROTOS with the same arguments have a list each.
        maker.method("e", "(I)I", 1, 1, "03 ac");
        file = Mills.out(Mills.with(maker.file()));
        Due.is("two lists", word(file, line(file, 0x1001) + 4), 2);
        same("two type lists", maker);
    }

    private static void arraysNeeded() throws Exception {
        String[] codes = {"b1", "b1 03 bc0a", "03 bc0a 57 b1", "a70006 03 bc0a b1", "03 990006 03 bc0a b1"};
        boolean[] needed = {false, false, true, false, false};
        for (int i = 0; i < codes.length; i++) {
            FileMaker maker = new FileMaker().method("f", "()V", 1, 0, codes[i]);
            RegisterMill mill = new RegisterMill();
            if (Mills.load(mill, maker.file()) == 1) {
                textsAre(codes[i], types(Mills.out(mill)), "LT; Ljava/lang/Object; V" + (needed[i] ? " [I" : ""));
                textsAre(codes[i], strings(Mills.out(mill)), "LT; Ljava/lang/Object; V" + (needed[i] ? " [I" : "") + " f");
                same(codes[i], maker);
            }
        }
        // In the last of METHODS, and by a descriptor alone.
        FileMaker maker = new FileMaker().method("f", "()V", 1, 0, "b1").method("g", "()V", 1, 0, "04 bc0a 57 b1");
        textsAre("in the second", types(Mills.out(Mills.with(maker.file()))), "LT; Ljava/lang/Object; V [I");
        maker = new FileMaker().method("f", "([I)V", 1, 1, "b1");
        textsAre("an argument", types(Mills.out(Mills.with(maker.file()))), "LT; Ljava/lang/Object; V [I");
        maker = new FileMaker().method("f", "()[I", 1, 1, "01 b0");
        textsAre("what is returned", types(Mills.out(Mills.with(maker.file()))), "LT; Ljava/lang/Object; [I");
        // null, loads and lengths of arrays need none.
        maker = new FileMaker().method("f", "()V", 1, 1, "01 4b 2a be 57 b1");
        textsAre("null", types(Mills.out(Mills.with(maker.file()))), "LT; Ljava/lang/Object; V");
        same("null", maker);
    }

    private static void stringsOnce() throws Exception {
        // Names that are a shorty, a type, or another name of the file.
        FileMaker maker = new FileMaker().method("V", "()V", 0, 0, "b1");
        textsAre("V", strings(Mills.out(Mills.with(maker.file()))), "LT; Ljava/lang/Object; V");
        same("V", maker);
        maker = new FileMaker().method("VIL", "(I[I)V", 0, 2, "b1").method("I", "()I", 1, 0, "03 ac");
        textsAre("VIL I", strings(Mills.out(Mills.with(maker.file()))), "I LT; Ljava/lang/Object; V VIL [I");
        same("VIL I", maker);
        maker = new FileMaker().method("f", "()V", 0, 0, "b1").method("f", "(I)V", 0, 1, "b1").method("f", "(II)V", 0, 2, "b1");
        textsAre("f", strings(Mills.out(Mills.with(maker.file()))), "I LT; Ljava/lang/Object; V VI VII f");
        same("f", maker);
        // A name like this one's is no TYPE.
        maker = new FileMaker("L", "LT").method("L", "()V", 0, 0, "b1").method("LT", "()V", 0, 0, "b1");
        textsAre("L LT", strings(Mills.out(Mills.with(maker.file()))), "L LL; LLT; LT V");
        same("L LT", maker, "L", "LT");
        // A name I needs no TYPE I.
        maker = new FileMaker().method("I", "()V", 0, 0, "b1");
        textsAre("name I", types(Mills.out(Mills.with(maker.file()))), "LT; Ljava/lang/Object; V");
        same("name I", maker);
    }

    private static void stringsInOrder() throws Exception {
        // By bytes: $ digits ; capitals [ _ small ones; what begins another one before it.
        FileMaker maker = new FileMaker("a/b", "a");
        for (String name : new String[] {"z", "ab", "a", "_", "Z", "A", "0", "$"}) {
            maker.method(name, "()V", 0, 0, "b1");
        }
        textsAre("by bytes", strings(Mills.out(Mills.with(maker.file()))), "$ 0 A La/b; La; V Z _ a ab z");
        same("by bytes", maker, "a/b", "a");
        maker = new FileMaker("a1", "a");
        for (String name : new String[] {"fff", "ff", "f", "ff_", "ff0", "VV", "LL", "La"}) {
            maker.method(name, "()V", 0, 0, "b1");
        }
        textsAre("beginnings", strings(Mills.out(Mills.with(maker.file()))), "LL La La1; La; V VV f ff ff0 ff_ fff");
        same("beginnings", maker, "a1", "a");
        // The last of 30 bytes differs.
        String long29 = "abcdefghijabcdefghij012345678";
        maker = new FileMaker(FORTY, FORTY.substring(0, 39) + "i");
        maker.method(long29 + "b", "()V", 0, 0, "b1").method(long29 + "a", "()V", 0, 0, "b1").method(long29, "()V", 0, 0, "b1");
        textsAre("long ones", strings(Mills.out(Mills.with(maker.file()))),
            "L" + FORTY.substring(0, 39) + "i; L" + FORTY + "; V " + long29 + " " + long29 + "a " + long29 + "b");
        same("long ones", maker, FORTY, FORTY.substring(0, 39) + "i");
    }

    private static void typesInOrder() throws Exception {
        String[] names = {"A", "I", "Z", "_", "a", "$", "0"};
        for (String own : names) {
            for (String above : names) {
                if (!own.equals(above)) {
                    FileMaker maker = new FileMaker(own, above).method("f", "(I)[I", 1, 1, "01 b0").method("g", "()V", 0, 0, "b1");
                    byte[] file = Mills.out(Mills.with(maker.file()));
                    boolean first = own.compareTo(above) < 0;
                    textsAre("TYPES", types(file), "I L" + (first ? own : above) + "; L" + (first ? above : own) + "; V [I");
                    int classes = word(file, 100);
                    Due.is("this", word(file, classes), first ? 1 : 2);
                    Due.is("above", word(file, classes + 8), first ? 2 : 1);
                    Due.is("of a METHOD", half(file, word(file, 92)), first ? 1 : 2);
                    same(own + " " + above, maker, own, above);
                }
            }
        }
    }

    private static void protosOnceAndInOrder() throws Exception {
        // I before V before [I, as their STRINGS are; fewer arguments before more that begin so.
        String[] descriptors = {"([I)[I", "(I[I)V", "(II)V", "(I)V", "()V", "([I)I", "(I[I)I", "(IIIIIIII)I"};
        FileMaker maker = new FileMaker();
        for (int i = 0; i < 8; i++) {
            maker.method("f", descriptors[i], 1, 8, code(descriptors[i]));
        }
        RegisterMill mill = Mills.with(maker.file());
        int[] numbers = {7, 6, 5, 4, 3, 2, 1, 0};
        for (int m = 0; m < 8; m++) {
            Due.is("number of " + descriptors[m], mill.method(m, 5), numbers[m]);
        }
        Due.is("PROTOS", mill.out(72), 8);
        same("8 PROTOS", maker);
        maker = new FileMaker();
        for (int i = 0; i < 8; i++) {
            maker.method("f" + i, i % 2 == 0 ? "()V" : "(I)V", 0, 1, "b1");
        }
        Due.is("each once", Mills.with(maker.file()).out(72), 2);
        same("2 PROTOS", maker);
    }

    private static void methodsInOrder() throws Exception {
        // By name first, also against the PROTOS; then by PROTO.
        FileMaker maker = new FileMaker();
        String[][] all = {{"b", "()I"}, {"a", "()[I"}, {"b", "()V"}, {"a", "()V"}, {"aa", "()I"}, {"A", "([I)[I"}, {"b", "(I)I"}, {"a", "()I"}};
        int[] numbers = {5, 3, 7, 2, 4, 0, 6, 1};
        for (String[] one : all) {
            maker.method(one[0], one[1], 1, 1, code(one[1]));
        }
        RegisterMill mill = Mills.with(maker.file());
        for (int m = 0; m < 8; m++) {
            Due.is("number of " + String.join(" ", all[m]), mill.method(m, 5), numbers[m]);
        }
        same("METHODS", maker);
        // Their codes lie in the order of these numbers, and 77 tells them.
        int[] byNumber = {5, 7, 3, 1, 4, 0, 6, 2};
        for (int i = 1; i < 8; i++) {
            Due.that("code " + i, mill.method(byNumber[i - 1], 9) < mill.method(byNumber[i], 9));
        }
    }

    private static void mostRegisters() throws Exception {
        for (int most = 0; most <= 8; most++) {
            FileMaker maker = new FileMaker();
            String large = "(" + "I".repeat(most) + ")V";
            String small = "(" + "I".repeat(Math.max(0, most - 1)) + ")V";
            int first = maker.own("g", large);
            int second = maker.own("h", small);
            int never = maker.own("i", "(IIIIIIII)V");
            String pushLarge = "03".repeat(most) + String.format("b800%02x", first);
            String pushSmall = "03".repeat(Math.max(0, most - 1)) + String.format("b800%02x", second);
            maker.method("a", "()V", 8, 0, pushLarge + pushSmall + "b1");
            maker.method("b", "()V", 8, 0, pushSmall + pushLarge + "b1" + String.format("b800%02x", never));
            maker.method("g", large, 0, 8, "b1").method("h", small, 0, 8, "b1").method("i", "(IIIIIIII)V", 0, 8, "b1");
            RegisterMill mill = Mills.with(maker.file());
            for (int m = 0; m < 2; m++) {
                Due.is("the most registers of a 77", mill.out(mill.method(m, 9) - 12), most);
                Due.is("its other byte", mill.out(mill.method(m, 9) - 11), 0);
            }
            Due.is("without a 77", mill.out(mill.method(2, 9) - 12), 0);
            same(most + " registers", maker);
        }
    }

    /** u of a place takes two bytes up to 16383, three from 16384 on; places of code are multiples of 4. */
    private static void threeBytesOfPlace() throws Exception {
        int[] seen = new int[2];
        for (int pairs = 0; pairs < 140; pairs++) {
            // Six large codes, then one that grows by two units at a time, then the last one, whose place is looked at.
            FileMaker maker = new FileMaker();
            for (int m = 0; m < 6; m++) {
                maker.method("a" + m, "()V", 40, 40, "03 01" + "5f".repeat(217) + "b1");
            }
            maker.method("b", "()V", 40, 40, "03 57".repeat(pairs) + "b1").method("c", "()V", 0, 0, "b1");
            RegisterMill mill = Mills.with(maker.file());
            int place = mill.method(7, 9) - 16;
            if (place >= 16376) {
                seen[place < 16384 ? 0 : 1]++;
                same("a code at " + place, maker);
            }
        }
        Due.that("places below 16384", seen[0] > 0);
        Due.that("places from 16384 on", seen[1] > 0);
    }

    /** The digest takes blocks of 64 bytes, the last with a length in it: all rests that a file's length can have. */
    private static void digestOfAllLengths() throws Exception {
        boolean[] seen = new boolean[64];
        for (int n = 1; n <= 30; n++) {
            for (int units = 0; units < 40; units += 3) {
                FileMaker maker = new FileMaker().method("x".repeat(n), "()V", 1, 0, "0357".repeat(units) + "b1");
                seen[(Mills.with(maker.file()).size() - 32) % 64] = true;
                same("digest " + n + " " + units, maker);
            }
        }
        for (int rest = 0; rest < 64; rest += 4) {
            Due.that("a rest of " + rest, seen[rest]);
        }
    }

    private static void largestAndSmallest() throws Exception {
        FileMaker maker = new FileMaker("a", "b").method("c", "()V", 0, 0, "b1");
        same("the smallest", maker, "a", "b");
        maker = new FileMaker(FORTY, FORTY.replace('j', 'k'));
        String[] returns = {"I", "V", "[I", "I", "V", "[I", "I", "V"};
        for (int m = 0; m < 8; m++) {
            String arguments = "I".repeat(m % 2) + "[I".repeat(m) + "I".repeat(8 - m - m % 2);
            String end = returns[m].equals("V") ? "b1" : returns[m].equals("I") ? "57 ac" : "b0";
            maker.method("abcdefghijabcdefghij012345678" + m, "(" + arguments + ")" + returns[m], 40, 40, "03 01" + "5f".repeat(296) + end);
        }
        same("the largest", maker, FORTY, FORTY.replace('j', 'k'));
    }

    /** A FAULT leaves the file, a load without one replaces it, also a longer one by a shorter one. */
    private static void fileStays() throws Exception {
        byte[] large = new FileMaker().method("large", "(I)I", 3, 3, "1a 04 60 ac").method("more", "()V", 0, 0, "b1").file();
        byte[] small = FileMaker.one("()V", 0, 0, "b1");
        byte[] largeOut = Mills.out(Mills.with(large));
        byte[] smallOut = Mills.out(Mills.with(small));
        RegisterMill mill = Mills.with(large);
        Due.is("with a FAULT", Mills.load(mill, new byte[] {1, 2, 3}), -1);
        Due.is("size()", mill.size(), largeOut.length);
        Due.is("the file", Arrays.mismatch(Mills.out(mill), largeOut), -1);
        Due.is("without one", Mills.load(mill, small), 1);
        Due.is("size()", mill.size(), smallOut.length);
        Due.is("behind the shorter one", mill.out(smallOut.length), -1);
        Due.is("the file", Arrays.mismatch(Mills.out(mill), smallOut), -1);
        Due.is("without one", Mills.load(mill, large), 2);
        Due.is("the file", Arrays.mismatch(Mills.out(mill), largeOut), -1);
    }
}
