import java.nio.ByteBuffer;
import java.nio.ByteOrder;
import java.nio.charset.StandardCharsets;
import java.security.MessageDigest;
import java.security.NoSuchAlgorithmException;
import java.util.ArrayList;
import java.util.Arrays;
import java.util.List;
import java.util.TreeSet;
import java.util.zip.Adler32;

/** Section 4 of the document told once more: the REGISTER FILE of METHODS whose units are known. */
final class ReferenceFile {
    private final String own;
    private final String above;
    private final List<Reference.Body> bodies;
    private final int[][] units;
    private final ByteBuffer out = ByteBuffer.allocate(100000).order(ByteOrder.LITTLE_ENDIAN);
    private final List<String> strings = new ArrayList<>();
    private final List<String> types = new ArrayList<>();
    private final List<String> protos = new ArrayList<>();
    private final List<Integer> order = new ArrayList<>();

    ReferenceFile(String own, String above, List<Reference.Body> bodies, int[][] units) {
        this.own = "L" + own + ";";
        this.above = "L" + above + ";";
        this.bodies = bodies;
        this.units = units;
    }

    private static List<String> arguments(String descriptor) {
        List<String> all = new ArrayList<>();
        for (char c : ProgramMaker.types(descriptor).toCharArray()) {
            all.add(c == 'I' ? "I" : "[I");
        }
        return all;
    }

    private static String result(String descriptor) {
        return descriptor.substring(descriptor.indexOf(')') + 1);
    }

    private static String shorty(String descriptor) {
        StringBuilder text = new StringBuilder(result(descriptor).replace("[I", "L"));
        for (String one : arguments(descriptor)) {
            text.append(one.equals("I") ? "I" : "L");
        }
        return text.toString();
    }

    private int compareProtos(String one, String other) {
        int by = Integer.compare(types.indexOf(result(one)), types.indexOf(result(other)));
        List<String> a = arguments(one);
        List<String> b = arguments(other);
        for (int i = 0; by == 0 && i < Math.min(a.size(), b.size()); i++) {
            by = Integer.compare(types.indexOf(a.get(i)), types.indexOf(b.get(i)));
        }
        return by != 0 ? by : Integer.compare(a.size(), b.size());
    }

    private void sort(boolean makesArrays) {
        TreeSet<String> needed = new TreeSet<>(List.of(own, above));
        if (makesArrays) {
            needed.add("[I");
        }
        for (Reference.Body body : bodies) {
            needed.add(result(body.descriptor));
            needed.addAll(arguments(body.descriptor));
        }
        types.addAll(needed);
        for (Reference.Body body : bodies) {
            needed.add(body.name);
            needed.add(shorty(body.descriptor));
            if (!protos.contains(body.descriptor)) {
                protos.add(body.descriptor);
            }
        }
        strings.addAll(needed);
        protos.sort(this::compareProtos);
        for (int m = 0; m < bodies.size(); m++) {
            order.add(m);
        }
        order.sort((a, b) -> {
            int by = bodies.get(a).name.compareTo(bodies.get(b).name);
            return by != 0 ? by : compareProtos(bodies.get(a).descriptor, bodies.get(b).descriptor);
        });
    }

    int numberOf(int m) {
        return order.indexOf(m);
    }

    private void uleb(int value) {
        while (value > 127) {
            out.put((byte) (value % 128 + 128));
            value /= 128;
        }
        out.put((byte) value);
    }

    private void align() {
        while (out.position() % 4 != 0) {
            out.put((byte) 0);
        }
    }

    private int outs(int m) {
        int most = 0;
        Reference.Body body = bodies.get(m);
        for (int pc : body.states.keySet()) {
            if ((body.code[pc] & 0xff) == 0xb8) {
                most = Math.max(most, called(body, pc));
            }
        }
        return most;
    }

    /** How many arguments a call has, as its 77 tells in the units. */
    private int called(Reference.Body body, int pc) {
        int m = bodies.indexOf(body);
        return units[m][begins[m][pc]] >>> 8;
    }

    int[][] begins;

    byte[] file(boolean makesArrays) throws NoSuchAlgorithmException {
        sort(makesArrays);
        int stringIds = 0x70;
        int typeIds = stringIds + 4 * strings.size();
        int protoIds = typeIds + 4 * types.size();
        int methodIds = protoIds + 12 * protos.size();
        int classDefs = methodIds + 8 * bodies.size();
        int data = classDefs + 32;
        out.position(data);
        int[] codesAt = new int[bodies.size()];
        for (int m : order) {
            align();
            codesAt[m] = out.position();
            Reference.Body body = bodies.get(m);
            int arguments = body.arguments.length();
            out.putShort((short) (2 + body.locals + body.stack + arguments)).putShort((short) arguments);
            out.putShort((short) outs(m)).putShort((short) 0).putInt(0).putInt(units[m].length);
            for (int unit : units[m]) {
                out.putShort((short) unit);
            }
        }
        List<Integer> lists = new ArrayList<>();
        int[] listsAt = new int[protos.size()];
        for (int p = 0; p < protos.size(); p++) {
            List<String> all = arguments(protos.get(p));
            if (!all.isEmpty()) {
                align();
                listsAt[p] = out.position();
                lists.add(out.position());
                out.putInt(all.size());
                for (String one : all) {
                    out.putShort((short) types.indexOf(one));
                }
            }
        }
        int[] stringsAt = new int[strings.size()];
        for (int s = 0; s < stringsAt.length; s++) {
            stringsAt[s] = out.position();
            uleb(strings.get(s).length());
            out.put(strings.get(s).getBytes(StandardCharsets.US_ASCII)).put((byte) 0);
        }
        int classData = out.position();
        uleb(0);
        uleb(0);
        uleb(bodies.size());
        uleb(0);
        for (int i = 0; i < order.size(); i++) {
            uleb(i == 0 ? 0 : 1);
            uleb(9);
            uleb(codesAt[order.get(i)]);
        }
        align();
        int map = out.position();
        int[][] lines = {{0, 1, 0}, {1, strings.size(), stringIds}, {2, types.size(), typeIds}, {3, protos.size(), protoIds},
            {5, bodies.size(), methodIds}, {6, 1, classDefs}, {0x2001, bodies.size(), data},
            {0x1001, lists.size(), lists.isEmpty() ? 0 : lists.get(0)}, {0x2002, strings.size(), stringsAt[0]},
            {0x2000, 1, classData}, {0x1000, 1, map}};
        out.putInt(lists.isEmpty() ? 10 : 11);
        for (int[] line : lines) {
            if (line[1] != 0) {
                out.putShort((short) line[0]).putShort((short) 0).putInt(line[1]).putInt(line[2]);
            }
        }
        int length = out.position();
        out.position(0);
        out.put("dex\n035\0".getBytes(StandardCharsets.US_ASCII));
        out.position(32);
        out.putInt(length).putInt(0x70).putInt(0x12345678).putInt(0).putInt(0).putInt(map);
        out.putInt(strings.size()).putInt(stringIds).putInt(types.size()).putInt(typeIds).putInt(protos.size()).putInt(protoIds);
        out.putInt(0).putInt(0).putInt(bodies.size()).putInt(methodIds).putInt(1).putInt(classDefs).putInt(length - data).putInt(data);
        for (int at : stringsAt) {
            out.putInt(at);
        }
        for (String type : types) {
            out.putInt(strings.indexOf(type));
        }
        for (int p = 0; p < protos.size(); p++) {
            out.putInt(strings.indexOf(shorty(protos.get(p)))).putInt(types.indexOf(result(protos.get(p)))).putInt(listsAt[p]);
        }
        for (int m : order) {
            Reference.Body body = bodies.get(m);
            out.putShort((short) types.indexOf(own)).putShort((short) protos.indexOf(body.descriptor)).putInt(strings.indexOf(body.name));
        }
        out.putInt(types.indexOf(own)).putInt(1).putInt(types.indexOf(above)).putInt(0).putInt(-1).putInt(0).putInt(classData).putInt(0);
        byte[] all = Arrays.copyOf(out.array(), length);
        byte[] digest = MessageDigest.getInstance("SHA-1").digest(Arrays.copyOfRange(all, 32, length));
        System.arraycopy(digest, 0, all, 12, 20);
        Adler32 sum = new Adler32();
        sum.update(all, 12, length - 12);
        ByteBuffer.wrap(all).order(ByteOrder.LITTLE_ENDIAN).putInt(8, (int) sum.getValue());
        return all;
    }
}
