/** Promises 1 to 7 and 12 to 14: objects are made, and asked about. */
public final class ObjectsTest {
    private static final int NONE = ObjectDepot.NONE;
    private static final int FULL = ObjectDepot.FULL;

    public static void main(String[] args) {
        newOneIsEmpty();
        putAddsLowestBytes();
        putRefuses();
        blobsAreStored();
        entriesAreListed();
        entryRefuses();
        treesAreStored();
        treeFindsByName();
        clearEmptiesBoth();
        commitsAreStored();
        commitRefuses();
        fullStoreChangesNothing();
        objectTells();
        contentTells();
        findFinds();
        Check.end();
    }

    private static void newOneIsEmpty() {
        ObjectDepot x = new ObjectDepot();
        Check.same("new: objects", Bytes.count(x), 0);
        for (int r = 0; r < 4; r++) {
            Check.same("new: reference", x.reference(r), NONE);
        }
        Check.same("new: history", x.history(0, 0), NONE);
        Check.same("new: wire", x.wire(-1), 0);
        Check.same("new: pack", x.pack(0), NONE);
        Check.same("new: clean", x.clean(), 0);
        Check.same("new: unpack", x.unpack(), ObjectDepot.BROKEN);
        Check.same("new: empty buffer", x.object(x.blob(), 1), 0);
        Check.same("new: empty list", x.object(x.tree(), 1), 0);
    }

    private static void blobIs(String what, ObjectDepot x, int... bytes) {
        int k = x.blob();
        Check.same(what + ": bytes", x.object(k, 1), bytes.length);
        for (int i = 0; i < bytes.length; i++) {
            Check.same(what + ": byte " + i, x.content(k, i), bytes[i]);
        }
    }

    private static void putAddsLowestBytes() {
        ObjectDepot x = new ObjectDepot();
        Check.yes("put 3 of 8", x.put(3, 0x1122334455667788L));
        blobIs("put 3 of 8", x, 0x66, 0x77, 0x88);
        Check.yes("put 8", x.put(8, 0xfedcba9876543210L));
        Check.yes("put 1 more", x.put(1, -1));
        blobIs("put 8 and 1", x, 0xfe, 0xdc, 0xba, 0x98, 0x76, 0x54, 0x32, 0x10, 0xff);
        Check.yes("put 2 of a small number", x.put(2, 5));
        blobIs("put 2 of a small number", x, 0, 5);
    }

    private static void putRefuses() {
        ObjectDepot x = new ObjectDepot();
        for (int n : new int[] {0, -1, 9, Integer.MIN_VALUE, Integer.MAX_VALUE}) {
            Check.no("put " + n, x.put(n, 1));
        }
        for (int i = 0; i < 5; i++) {
            Check.yes("put 8", x.put(8, i));
        }
        Check.yes("put up to 47", x.put(7, 1));
        Check.no("put over 48", x.put(2, 1));
        Check.yes("put up to 48", x.put(1, 7));
        Check.no("put a 49th", x.put(1, 1));
        int k = x.blob();
        Check.same("48 bytes", x.object(k, 1), 48);
        Check.same("the last of 48", x.content(k, 47), 7);
        Check.yes("put after blob", x.put(8, 1));
    }

    private static void blobsAreStored() {
        ObjectDepot x = new ObjectDepot();
        Check.same("first blob", Bytes.blob(x, "hello"), 0);
        Check.same("empty blob", x.blob(), 1);
        Check.same("same blob again", Bytes.blob(x, "hello"), 0);
        Check.same("buffer is empty after a known blob", x.blob(), 1);
        // These two names are git's own for the same texts.
        Check.same("name of hello", x.find(0xb6fc4c62, 0x0b67d95f, 0x953a5c1c, 0x1230aaab, 0x5db5a1b0), 0);
        Check.same("name of nothing", x.find(0xe69de29b, 0xb2d1d643, 0x4b8b29ae, 0x775ad8c2, 0xe48c5391), 1);
        // Every length, so that each way in which SHA-1 fills up its blocks is used.
        for (int n = 0; n <= 48; n++) {
            ObjectDepot y = new ObjectDepot();
            String text = "\0\377 0123456789abcdefghijklmnopqrstuvwxyz~ABCDEFGHIJ".substring(0, n);
            int k = Bytes.blob(y, text);
            Check.yes("name of " + n + " bytes", Bytes.same(Bytes.nameOf(y, k), Bytes.name(Bytes.BLOB, Bytes.of(text))));
        }
    }

    private static void entriesAreListed() {
        ObjectDepot x = new ObjectDepot();
        int b = Bytes.blob(x, "b");
        int t = x.tree();
        Check.yes("entry z", x.entry(25, b));
        Check.yes("entry a", x.entry(0, t));
        Check.yes("entry m", x.entry(12, b));
        int k = x.tree();
        byte[] due = Bytes.of(Bytes.entry(Bytes.TREE, 'a', Bytes.nameOf(x, t)),
            Bytes.entry(Bytes.BLOB, 'm', Bytes.nameOf(x, b)), Bytes.entry(Bytes.BLOB, 'z', Bytes.nameOf(x, b)));
        Check.yes("entries in the order of letters", Bytes.same(Bytes.contentOf(x, k), due));
    }

    private static void entryRefuses() {
        ObjectDepot x = new ObjectDepot();
        int b = Bytes.blob(x, "b");
        int t = x.tree();
        int c = x.commit(t, -1, -1, 1);
        for (int letter : new int[] {-1, 26, Integer.MIN_VALUE, Integer.MAX_VALUE}) {
            Check.no("entry of letter " + letter, x.entry(letter, b));
        }
        for (int k : new int[] {c, 3, 23, 24, -1, Integer.MIN_VALUE, Integer.MAX_VALUE}) {
            Check.no("entry of object " + k, x.entry(0, k));
        }
        Check.yes("entry a", x.entry(0, b));
        Check.no("entry a again", x.entry(0, t));
        Check.yes("second", x.entry(1, b));
        Check.yes("third", x.entry(2, b));
        Check.yes("fourth", x.entry(3, b));
        Check.no("fifth", x.entry(4, b));
        int k = x.tree();
        Check.same("four entries", x.object(k, 1), 4 * 29);
        Check.same("the refused ones left nothing", x.content(k, 7), 'a');
        Check.yes("the list is free again", x.entry(0, b));
    }

    private static void treesAreStored() {
        ObjectDepot x = new ObjectDepot();
        Check.same("empty tree", x.tree(), 0);
        Check.same("its kind", x.object(0, 0), Bytes.TREE);
        // Git's own name of the empty tree.
        Check.same("its name", x.find(0x4b825dc6, 0x42cb6eb9, 0xa060e54b, 0xf8d69288, 0xfbee4904), 0);
        Bytes.blob(x, "b");
        x.entry(3, 1);
        Check.same("tree", x.tree(), 2);
        x.entry(3, 1);
        Check.same("same tree again", x.tree(), 2);
        Check.same("list is empty after a known tree", x.tree(), 0);
        x.entry(3, 2);
        int k = x.tree();
        Check.same("a tree of a tree", k, 3);
        byte[] due = Bytes.entry(Bytes.TREE, 'd', Bytes.nameOf(x, 2));
        Check.yes("its content", Bytes.same(Bytes.contentOf(x, k), due));
        Check.yes("its name", Bytes.same(Bytes.nameOf(x, k), Bytes.name(Bytes.TREE, due)));
    }

    private static void treeFindsByName() {
        ObjectDepot x = new ObjectDepot();
        Bytes.blob(x, "one");
        Bytes.blob(x, "two");
        x.entry(0, 1);
        x.clean();
        Check.same("its object is gone", x.tree(), NONE);
        Bytes.blob(x, "other");
        Bytes.blob(x, "more");
        Check.same("another object has its number", x.tree(), NONE);
        Check.no("the list stayed", x.entry(0, 0));
        Check.same("its object is back under another number", Bytes.blob(x, "two"), 2);
        int k = x.tree();
        Check.same("tree", k, 3);
        Check.yes("it reaches the one that is back", x.reaches(k, 2));
        Check.same("and that alone", x.object(k, 7), 2);
        // NONE also if the store is full.
        x.entry(0, 2);
        x.clean();
        fill(x, 24);
        Check.same("gone, and the store is full", x.tree(), NONE);
        Check.same("the list did not become a tree", Bytes.count(x), 24);
    }

    private static void clearEmptiesBoth() {
        ObjectDepot x = new ObjectDepot();
        Bytes.blob(x, "b");
        x.put(3, 5);
        x.entry(0, 0);
        x.feed(1, 80);
        x.clear();
        Check.same("buffer after clear", x.object(x.blob(), 1), 0);
        Check.same("list after clear", x.object(x.tree(), 1), 0);
        Check.same("the wire stays", x.wire(-1), 1);
        Check.same("objects stay", x.object(0, 0), Bytes.BLOB);
    }

    private static void commitIs(String what, ObjectDepot x, int k, byte[] due) {
        Check.same(what + ": kind", x.object(k, 0), Bytes.COMMIT);
        Check.yes(what + ": content", Bytes.same(Bytes.contentOf(x, k), due));
        Check.yes(what + ": name", Bytes.same(Bytes.nameOf(x, k), Bytes.name(Bytes.COMMIT, due)));
    }

    private static void commitsAreStored() {
        ObjectDepot x = new ObjectDepot();
        byte[] tree = Bytes.nameOf(x, x.tree());
        Check.same("commit", x.commit(0, -1, -1, 0), 1);
        commitIs("number 0", x, 1, Bytes.commit(0, tree));
        byte[] first = Bytes.nameOf(x, 1);
        int k = x.commit(0, 1, -1, 9);
        commitIs("first parent", x, k, Bytes.commit(9, tree, first));
        Check.same("a second parent alone is the same", x.commit(0, -1, 1, 9), k);
        byte[] second = Bytes.nameOf(x, k);
        commitIs("two", x, x.commit(0, 1, k, 10), Bytes.commit(10, tree, first, second));
        commitIs("two turned round", x, x.commit(0, k, 1, 99), Bytes.commit(99, tree, second, first));
        int twice = x.commit(0, 1, 1, 100);
        commitIs("twice the same", x, twice, Bytes.commit(100, tree, first, first));
        Check.same("twice the same is reached once", x.object(twice, 7), 3);
        int longest = x.commit(0, 1, k, 999);
        commitIs("the longest", x, longest, Bytes.commit(999, tree, first, second));
        Check.same("its length", x.object(longest, 1), 147);
        Check.same("stored again", x.commit(0, 1, k, 999), longest);
        commitIs("a 0 inside", x, x.commit(0, -1, -1, 101), Bytes.commit(101, tree));
        commitIs("two digits", x, x.commit(0, -1, -1, 40), Bytes.commit(40, tree));
    }

    private static void commitRefuses() {
        ObjectDepot x = new ObjectDepot();
        int t = x.tree();
        int b = Bytes.blob(x, "b");
        int c = x.commit(t, -1, -1, 1);
        for (int k : new int[] {b, c, 3, 24, -1, -2, Integer.MIN_VALUE, Integer.MAX_VALUE}) {
            Check.same("commit of tree " + k, x.commit(k, -1, -1, 1), NONE);
        }
        for (int k : new int[] {b, t, 3, 24, -2, Integer.MIN_VALUE, Integer.MAX_VALUE}) {
            Check.same("commit with p " + k, x.commit(t, k, -1, 1), NONE);
            Check.same("commit with q " + k, x.commit(t, -1, k, 1), NONE);
            Check.same("commit with q behind p " + k, x.commit(t, c, k, 1), NONE);
        }
        for (int n : new int[] {-1, 1000, Integer.MIN_VALUE, Integer.MAX_VALUE}) {
            Check.same("commit with number " + n, x.commit(t, c, c, n), NONE);
        }
        Check.same("nothing was stored", Bytes.count(x), 3);
    }

    private static void fill(ObjectDepot x, int upTo) {
        for (int i = 0; Bytes.count(x) < upTo; i++) {
            Bytes.blob(x, "fill " + i);
        }
    }

    private static void fullStoreChangesNothing() {
        ObjectDepot x = new ObjectDepot();
        int t = x.tree();
        int c = x.commit(t, -1, -1, 1);
        fill(x, 24);
        Check.same("known blob", Bytes.blob(x, "fill 3"), 5);
        Check.same("known tree", x.tree(), t);
        Check.same("known commit", x.commit(t, -1, -1, 1), c);
        Check.same("new commit", x.commit(t, c, -1, 1), FULL);
        Check.same("a wrong commit", x.commit(t, c, -1, 1000), NONE);
        x.put(2, 0x4142);
        Check.same("new blob", x.blob(), FULL);
        x.entry(4, 5);
        Check.same("new tree", x.tree(), FULL);
        x.move(0, -1, c);
        Check.same("cleaned", x.clean(), 22);
        int b = x.blob();
        Check.same("the buffer stayed", x.object(b, 1), 2);
        Check.same("least free number", b, 2);
        Check.same("the list stayed, but its object went", x.tree(), NONE);
    }

    private static void objectTells() {
        ObjectDepot x = new ObjectDepot();
        Bytes.blob(x, "b");
        x.entry(0, 0);
        x.tree();
        x.entry(0, 1);
        x.entry(1, 0);
        x.tree();
        x.commit(2, -1, -1, 5);
        x.commit(1, 3, -1, 5);
        int[] kinds = {3, 2, 2, 1, 1};
        int[] lengths = {1, 29, 57, 49, 97};
        // The last one reaches its tree both by itself and over its parent.
        int[] reached = {1, 2, 3, 4, 5};
        for (int k = 0; k < 5; k++) {
            Check.same("kind of " + k, x.object(k, 0), kinds[k]);
            Check.same("length of " + k, x.object(k, 1), lengths[k]);
            Check.same("reached by " + k, x.object(k, 7), reached[k]);
            byte[] name = Bytes.name(kinds[k], Bytes.contentOf(x, k));
            for (int i = 0; i < 5; i++) {
                Check.same("word " + i + " of " + k, x.object(k, 2 + i), Bytes.word(name, i));
            }
        }
        for (int w : new int[] {-1, 8, Integer.MIN_VALUE, Integer.MAX_VALUE}) {
            Check.same("object(0, " + w + ")", x.object(0, w), NONE);
        }
        for (int k : new int[] {-1, 5, 23, 24, Integer.MIN_VALUE, Integer.MAX_VALUE}) {
            for (int w = 0; w <= 7; w++) {
                Check.same("object(" + k + ", " + w + ")", x.object(k, w), NONE);
            }
        }
    }

    private static void contentTells() {
        ObjectDepot x = new ObjectDepot();
        x.put(3, 0x00ff41);
        x.blob();
        Check.same("byte 0", x.content(0, 0), 0);
        Check.same("byte 255", x.content(0, 1), 255);
        Check.same("last byte", x.content(0, 2), 0x41);
        for (int i : new int[] {-1, 3, Integer.MIN_VALUE, Integer.MAX_VALUE}) {
            Check.same("content(0, " + i + ")", x.content(0, i), NONE);
        }
        for (int k : new int[] {-1, 1, 24, Integer.MIN_VALUE, Integer.MAX_VALUE}) {
            Check.same("content(" + k + ", 0)", x.content(k, 0), NONE);
        }
        x.clean();
        Check.same("content of what is gone", x.content(0, 0), NONE);
    }

    private static void findFinds() {
        ObjectDepot x = new ObjectDepot();
        for (int i = 0; i < 24; i++) {
            Bytes.blob(x, "blob " + i);
        }
        int[] n = new int[5];
        for (int k = 0; k < 24; k++) {
            for (int i = 0; i < 5; i++) {
                n[i] = x.object(k, 2 + i);
            }
            Check.same("find " + k, x.find(n[0], n[1], n[2], n[3], n[4]), k);
            for (int i = 0; i < 5; i++) {
                n[i]++;
                Check.same("find with word " + i + " wrong", x.find(n[0], n[1], n[2], n[3], n[4]), NONE);
                n[i]--;
            }
        }
        x.clean();
        Check.same("find what is gone", x.find(n[0], n[1], n[2], n[3], n[4]), NONE);
        Check.same("find zeros", x.find(0, 0, 0, 0, 0), NONE);
    }
}
