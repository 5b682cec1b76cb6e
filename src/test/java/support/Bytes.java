import java.io.ByteArrayOutputStream;

/** Bytes of a file that is being made, the highest byte of a number first. */
final class Bytes {
    private final ByteArrayOutputStream out = new ByteArrayOutputStream();

    Bytes b(int... all) {
        for (int one : all) {
            out.write(one);
        }
        return this;
    }

    Bytes h(int... all) {
        for (int one : all) {
            b(one >>> 8, one);
        }
        return this;
    }

    Bytes w(int... all) {
        for (int one : all) {
            h(one >>> 16, one);
        }
        return this;
    }

    Bytes text(String text) {
        h(text.length());
        for (char c : text.toCharArray()) {
            b(c);
        }
        return this;
    }

    Bytes raw(byte[] all) {
        out.write(all, 0, all.length);
        return this;
    }

    int at() {
        return out.size();
    }

    byte[] all() {
        return out.toByteArray();
    }

    static byte[] of(String hex) {
        String digits = hex.replace(" ", "");
        byte[] all = new byte[digits.length() / 2];
        for (int i = 0; i < all.length; i++) {
            all[i] = (byte) Integer.parseInt(digits.substring(2 * i, 2 * i + 2), 16);
        }
        return all;
    }
}
