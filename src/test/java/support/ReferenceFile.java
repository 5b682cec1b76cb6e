import java.nio.ByteBuffer;
import java.nio.ByteOrder;
import java.nio.charset.StandardCharsets;
import java.security.MessageDigest;
import java.security.NoSuchAlgorithmException;
import java.util.ArrayList;
import java.util.Arrays;
import java.util.HashMap;
import java.util.List;
import java.util.Map;
import java.util.TreeSet;
import java.util.zip.Adler32;

/** Section 4 of the document told once more: the REGISTER FILE, with units as ReferenceUnits tells them. */
final class ReferenceFile {
    private final String own;
    private final String above;
    private final List<Reference.Body> bodies;
    private final List<ReferenceUnits> units = new ArrayList<>();
    private final ByteBuffer out = ByteBuffer.allocate(100000).order(ByteOrder.LITTLE_ENDIAN);
    private final List<String> strings = new ArrayList<>();
    private final List<String> types = new ArrayList<>();
    private final List<String> protos = new ArrayList<>();
    private final List<Integer> order = new ArrayList<>();

    ReferenceFile(String own, String above, Reference reference) {
        this.own = "L" + own + ";";
        this.above = "L" + above + ";";
        bodies = reference.bodies;
        sort();
        Map<Reference.Body, Integer> numbers = new HashMap<>();
        for (int m = 0; m < bodies.size(); m++) {
            numbers.put(bodies.get(m), numberOf(m));
        }
        for (Reference.Body body : bodies) {
            units.add(new ReferenceUnits(reference, body, numbers, types.indexOf("[I")));
        }
    }

    private static List<String> arguments(String descriptor) {
        List<String> all = new ArrayList<>();
        for (char c : ProgramMaker.types(descriptor).toCharArray()) {
            all.add(c == 'I' ? "I" : "[I");
        }
        return all;
    }

    private static String result(String descriptor) {
        return descriptor.substring(descriptor.indexOf(')') + 1);
    }

    private static String shorty(String descriptor) {
        StringBuilder text = new StringBuilder(result(descriptor).replace("[I", "L"));
        for (String one : arguments(descriptor)) {
            text.append(one.equals("I") ? "I" : "L");
        }
        return text.toString();
    }

    private int compareProtos(String one, String other) {
        int by = Integer.compare(types.indexOf(result(one)), types.indexOf(result(other)));
        List<String> a = arguments(one);
        List<String> b = arguments(other);
        for (int i = 0; by == 0 && i < Math.min(a.size(), b.size()); i++) {
            by = Integer.compare(types.indexOf(a.get(i)), types.indexOf(b.get(i)));
        }
        return by != 0 ? by : Integer.compare(a.size(), b.size());
    }

    private void sort() {
        TreeSet<String> needed = new TreeSet<>(List.of(own, above));
        for (Reference.Body body : bodies) {
            for (int pc : body.states.keySet()) {
                if (Reference.u(body, pc) == 0xbc) {
                    needed.add("[I");
                }
            }
            needed.add(result(body.descriptor));
            needed.addAll(arguments(body.descriptor));
        }
        types.addAll(needed);
        for (Reference.Body body : bodies) {
            needed.add(body.name);
            needed.add(shorty(body.descriptor));
            if (!protos.contains(body.descriptor)) {
                protos.add(body.descriptor);
            }
        }
        strings.addAll(needed);
        protos.sort(this::compareProtos);
        for (int m = 0; m < bodies.size(); m++) {
            order.add(m);
        }
        order.sort((a, b) -> {
            int by = bodies.get(a).name.compareTo(bodies.get(b).name);
            return by != 0 ? by : compareProtos(bodies.get(a).descriptor, bodies.get(b).descriptor);
        });
    }

    int numberOf(int m) {
        return order.indexOf(m);
    }

    private void uleb(int value) {
        while (value > 127) {
            out.put((byte) (value % 128 + 128));
            value /= 128;
        }
        out.put((byte) value);
    }

    private void align() {
        while (out.position() % 4 != 0) {
            out.put((byte) 0);
        }
    }

    ReferenceUnits unitsOf(int m) {
        return units.get(m);
    }

    byte[] file() throws NoSuchAlgorithmException {
        int stringIds = 0x70;
        int typeIds = stringIds + 4 * strings.size();
        int protoIds = typeIds + 4 * types.size();
        int methodIds = protoIds + 12 * protos.size();
        int classDefs = methodIds + 8 * bodies.size();
        int data = classDefs + 32;
        out.position(data);
        int[] codesAt = new int[bodies.size()];
        for (int m : order) {
            align();
            codesAt[m] = out.position();
            Reference.Body body = bodies.get(m);
            int arguments = body.arguments.length();
            out.putShort((short) (2 + body.locals + body.stack + arguments)).putShort((short) arguments);
            out.putShort((short) units.get(m).mostPassed).putShort((short) 0).putInt(0).putInt(units.get(m).units.size());
            for (int unit : units.get(m).units) {
                out.putShort((short) unit);
            }
        }
        List<Integer> lists = new ArrayList<>();
        int[] listsAt = new int[protos.size()];
        for (int p = 0; p < protos.size(); p++) {
            List<String> all = arguments(protos.get(p));
            if (!all.isEmpty()) {
                align();
                listsAt[p] = out.position();
                lists.add(out.position());
                out.putInt(all.size());
                for (String one : all) {
                    out.putShort((short) types.indexOf(one));
                }
            }
        }
        int[] stringsAt = new int[strings.size()];
        for (int s = 0; s < stringsAt.length; s++) {
            stringsAt[s] = out.position();
            uleb(strings.get(s).length());
            out.put(strings.get(s).getBytes(StandardCharsets.US_ASCII)).put((byte) 0);
        }
        int classData = out.position();
        uleb(0);
        uleb(0);
        uleb(bodies.size());
        uleb(0);
        for (int i = 0; i < order.size(); i++) {
            uleb(i == 0 ? 0 : 1);
            uleb(9);
            uleb(codesAt[order.get(i)]);
        }
        align();
        int map = out.position();
        int[][] lines = {{0, 1, 0}, {1, strings.size(), stringIds}, {2, types.size(), typeIds}, {3, protos.size(), protoIds},
            {5, bodies.size(), methodIds}, {6, 1, classDefs}, {0x2001, bodies.size(), data},
            {0x1001, lists.size(), lists.isEmpty() ? 0 : lists.get(0)}, {0x2002, strings.size(), stringsAt[0]},
            {0x2000, 1, classData}, {0x1000, 1, map}};
        out.putInt(lists.isEmpty() ? 10 : 11);
        for (int[] line : lines) {
            if (line[1] != 0) {
                out.putShort((short) line[0]).putShort((short) 0).putInt(line[1]).putInt(line[2]);
            }
        }
        int length = out.position();
        out.position(0);
        out.put("dex\n035\0".getBytes(StandardCharsets.US_ASCII));
        out.position(32);
        out.putInt(length).putInt(0x70).putInt(0x12345678).putInt(0).putInt(0).putInt(map);
        out.putInt(strings.size()).putInt(stringIds).putInt(types.size()).putInt(typeIds).putInt(protos.size()).putInt(protoIds);
        out.putInt(0).putInt(0).putInt(bodies.size()).putInt(methodIds).putInt(1).putInt(classDefs).putInt(length - data).putInt(data);
        for (int at : stringsAt) {
            out.putInt(at);
        }
        for (String type : types) {
            out.putInt(strings.indexOf(type));
        }
        for (int p = 0; p < protos.size(); p++) {
            out.putInt(strings.indexOf(shorty(protos.get(p)))).putInt(types.indexOf(result(protos.get(p)))).putInt(listsAt[p]);
        }
        for (int m : order) {
            Reference.Body body = bodies.get(m);
            out.putShort((short) types.indexOf(own)).putShort((short) protos.indexOf(body.descriptor)).putInt(strings.indexOf(body.name));
        }
        out.putInt(types.indexOf(own)).putInt(1).putInt(types.indexOf(above)).putInt(0).putInt(-1).putInt(0).putInt(classData).putInt(0);
        byte[] all = Arrays.copyOf(out.array(), length);
        byte[] digest = MessageDigest.getInstance("SHA-1").digest(Arrays.copyOfRange(all, 32, length));
        System.arraycopy(digest, 0, all, 12, 20);
        Adler32 sum = new Adler32();
        sum.update(all, 12, length - 12);
        ByteBuffer.wrap(all).order(ByteOrder.LITTLE_ENDIAN).putInt(8, (int) sum.getValue());
        return all;
    }

    /** All that a mill tells of a file's units and REGISTER FILE, and all that is told here; whether there was no FAULT. */
    static boolean compare(String name, byte[] file, String own, String above) throws Exception {
        RegisterMill mill = new RegisterMill();
        int answer = Mills.load(mill, file);
        if (answer < 0) {
            Due.is(name + ": size()", mill.size(), 0);
            return false;
        }
        Reference reference = new Reference(file);
        reference.read();
        ReferenceFile due = new ReferenceFile(own, above, reference);
        byte[] all = due.file();
        byte[] got = Mills.out(mill);
        Due.is(name + ": size()", mill.size(), all.length);
        Due.is(name + ": first other byte", Arrays.mismatch(got, all), -1);
        for (int m = 0; m < answer; m++) {
            Due.is(name + ": number", mill.method(m, 5), due.numberOf(m));
            ReferenceUnits code = due.unitsOf(m);
            Due.is(name + ": units", mill.method(m, 7), code.units.size());
            int place = mill.method(m, 9);
            for (int i = 0; i < code.units.size(); i++) {
                Due.is(name + ": unit " + i, mill.unit(m, i), code.units.get(i));
                Due.is(name + ": in the file", got[place + 2 * i] & 0xff | (got[place + 2 * i + 1] & 0xff) << 8, code.units.get(i));
            }
            for (int pc : code.begins.keySet()) {
                Due.is(name + ": begin " + pc, mill.state(m, pc, 2), code.begins.get(pc));
            }
        }
        Due.is(name + ": check()", mill.check(), 1);
        return true;
    }

    /** The same of a file that has no FAULT. */
    static void compareRight(String name, byte[] file, String own, String above) throws Exception {
        Due.that(name + ": has no FAULT", compare(name, file, own, above));
    }
}
