import java.io.ByteArrayOutputStream;
import java.nio.ByteBuffer;
import java.nio.charset.StandardCharsets;
import java.security.MessageDigest;
import java.security.NoSuchAlgorithmException;
import java.util.Arrays;

/** Contents, names, deltas and packs as the document says them, put together by hand. */
final class Bytes {
    static final int COMMIT = 1;
    static final int TREE = 2;
    static final int BLOB = 3;

    // Only few NAMEs, if .ci/run says so: then contents of different kinds often have the same one.
    private static final int NAME_MASK = Integer.getInteger("depot.nameMask", -1);

    private Bytes() {
    }

    /** Joins numbers (single bytes), texts and rows of bytes. */
    static byte[] of(Object... parts) {
        ByteArrayOutputStream out = new ByteArrayOutputStream();
        for (Object part : parts) {
            if (part instanceof byte[]) {
                out.writeBytes((byte[]) part);
            } else if (part instanceof String) {
                out.writeBytes(((String) part).getBytes(StandardCharsets.ISO_8859_1));
            } else {
                out.write((Integer) part);
            }
        }
        return out.toByteArray();
    }

    static byte[] sha1(byte[] message) {
        try {
            return MessageDigest.getInstance("SHA-1").digest(message);
        } catch (NoSuchAlgorithmException e) {
            throw new IllegalStateException(e);
        }
    }

    static byte[] name(int kind, byte[] content) {
        String word = kind == COMMIT ? "commit" : kind == TREE ? "tree" : "blob";
        byte[] name = sha1(of(word + " " + content.length, 0, content));
        return NAME_MASK == -1 ? name : fewNames(word(name, 0) & NAME_MASK);
    }

    /** As the class that .ci/run makes for this names its objects: five times the same word. */
    private static byte[] fewNames(int word) {
        ByteBuffer name = ByteBuffer.allocate(20);
        for (int i = 0; i < 5; i++) {
            name.putInt(word);
        }
        return name.array();
    }

    static int word(byte[] name, int i) {
        return ByteBuffer.wrap(name).getInt(4 * i);
    }

    static String hex(byte[] name) {
        StringBuilder text = new StringBuilder();
        for (byte b : name) {
            text.append(String.format("%02x", b & 255));
        }
        return text.toString();
    }

    static byte[] unhex(String digits) {
        byte[] bytes = new byte[digits.length() / 2];
        for (int i = 0; i < bytes.length; i++) {
            bytes[i] = (byte) Integer.parseInt(digits.substring(2 * i, 2 * i + 2), 16);
        }
        return bytes;
    }

    static byte[] entry(int kind, char letter, byte[] name) {
        return of(kind == BLOB ? "100644 " : "40000 ", (int) letter, 0, name);
    }

    static byte[] commit(int number, byte[] tree, byte[]... parents) {
        StringBuilder text = new StringBuilder("tree " + hex(tree) + "\n");
        for (byte[] parent : parents) {
            text.append("parent ").append(hex(parent)).append('\n');
        }
        return of(text + "\n" + number + "\n");
    }

    static byte[] whole(int kind, byte[] content) {
        return of(kind, content.length, content);
    }

    static byte[] deltaBack(int length, int d, byte[] delta) {
        return of(4, length, d, delta.length, delta);
    }

    static byte[] deltaNamed(int length, byte[] name, byte[] delta) {
        return of(5, length, name, delta.length, delta);
    }

    static byte[] withSum(byte[] head) {
        return of(head, Arrays.copyOf(sha1(head), 4));
    }

    static byte[] pack(byte[]... members) {
        return withSum(of(80, members.length, of((Object[]) members)));
    }

    static long number(byte[] bytes, int from, int n) {
        long number = 0;
        for (int i = 0; i < n; i++) {
            number = number << 8 | bytes[from + i] & 255;
        }
        return number;
    }

    /** A blob of this text. */
    static int blob(ObjectDepot depot, String text) {
        byte[] bytes = of(text);
        for (int from = 0; from < bytes.length; from += 8) {
            int n = Math.min(8, bytes.length - from);
            depot.put(n, number(bytes, from, n));
        }
        return depot.blob();
    }

    static void setWire(ObjectDepot depot, byte[] bytes) {
        depot.alter(0, -1);
        for (int from = 0; from < bytes.length; from += 8) {
            int n = Math.min(8, bytes.length - from);
            depot.feed(n, number(bytes, from, n));
        }
    }

    static int takeIn(ObjectDepot depot, byte[] wire) {
        setWire(depot, wire);
        return depot.unpack();
    }

    static byte[] wireOf(ObjectDepot depot) {
        byte[] bytes = new byte[depot.wire(-1)];
        for (int i = 0; i < bytes.length; i++) {
            bytes[i] = (byte) depot.wire(i);
        }
        return bytes;
    }

    static byte[] contentOf(ObjectDepot depot, int k) {
        byte[] bytes = new byte[depot.object(k, 1)];
        for (int i = 0; i < bytes.length; i++) {
            bytes[i] = (byte) depot.content(k, i);
        }
        return bytes;
    }

    static byte[] nameOf(ObjectDepot depot, int k) {
        ByteBuffer name = ByteBuffer.allocate(20);
        for (int w = 2; w <= 6; w++) {
            name.putInt(depot.object(k, w));
        }
        return name.array();
    }

    static int count(ObjectDepot depot) {
        int count = 0;
        for (int k = 0; k < 24; k++) {
            count += depot.object(k, 0) == ObjectDepot.NONE ? 0 : 1;
        }
        return count;
    }

    static boolean same(byte[] a, byte[] b) {
        return Arrays.equals(a, b);
    }
}
