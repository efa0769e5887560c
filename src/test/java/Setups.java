import java.util.Arrays;

/** Runs of calls after which there is something everywhere: objects, references, moves, and in each row. */
final class Setups {
    static final int BLOB = 0;
    static final int TREE = 1;
    static final int FIRST_COMMIT = 2;
    static final int COMMIT = 3;
    /** No reference reaches it. */
    static final int LOST = 4;
    static final int OBJECTS = 5;

    private Setups() {
    }

    /** The five objects above; reference 1 has been moved to one commit, and then to the other. */
    static void objects(ObjectDepot x) {
        Bytes.blob(x, "b");
        x.entry(0, BLOB);
        x.tree();
        x.commit(TREE, -1, -1, 1);
        x.commit(TREE, FIRST_COMMIT, -1, 2);
        Bytes.blob(x, "lost");
        x.move(1, -1, FIRST_COMMIT);
        x.move(1, FIRST_COMMIT, COMMIT);
    }

    /** Three bytes in the buffer, two entries in the list, five bytes on the wire. */
    static void rows(ObjectDepot x) {
        x.put(3, 0x616263);
        x.entry(4, BLOB);
        x.entry(2, TREE);
        x.feed(5, 0x5001030041L);
    }

    static void mixed(ObjectDepot x) {
        objects(x);
        rows(x);
    }

    /** The objects above and lost blobs, so many in all. */
    static void objects(ObjectDepot x, int count) {
        objects(x);
        for (int k = OBJECTS; k < count; k++) {
            Bytes.blob(x, "lost " + k);
        }
    }

    static void mixed(ObjectDepot x, int count) {
        objects(x, count);
        rows(x);
    }

    static void put(ObjectDepot x, int count) {
        for (int i = 0; i < count; i++) {
            x.put(1, 65 + i);
        }
    }

    static void feed(ObjectDepot x, int count) {
        for (int i = 0; i < count; i++) {
            x.feed(1, i);
        }
    }

    /** Objects whose pack has this length (599 .. 720) if all members stand whole: how many members. */
    static int packOf(ObjectDepot x, int length) {
        x.tree();
        int first = x.commit(0, -1, -1, 100);
        int second = x.commit(0, first, first, 100);
        int third = x.commit(0, second, second, 100);
        // The empty tree and these commits take 2, 53 and twice 149 bytes, the one below 101.
        int blobs = fillList(x, length - 6 - 2 - 53 - 2 * 149 - 101);
        x.move(0, -1, x.commit(x.tree(), third, -1, 100));
        return 6 + blobs;
    }

    /** Lists blobs so that they and the tree of them take this many bytes of a pack: how many. */
    private static int fillList(ObjectDepot x, int bytes) {
        int left = bytes - 2;
        int blobs = 0;
        while (left > 0) {
            int n = Math.min(48, left - 31);
            if (left - 31 - n > 0 && left - 31 - n < 31) {
                n -= 31;
            }
            char[] text = new char[n];
            Arrays.fill(text, (char) ('a' + blobs));
            x.entry(blobs, Bytes.blob(x, new String(text)));
            left -= 31 + n;
            blobs++;
        }
        return blobs;
    }
}
