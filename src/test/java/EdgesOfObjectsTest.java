import java.util.function.Consumer;

/** The edges that the document names in Promises 1 to 7: a test for each sentence. */
public final class EdgesOfObjectsTest {
    private static final int NONE = ObjectDepot.NONE;
    private static final int FULL = ObjectDepot.FULL;
    private static final int[] FAR = {Integer.MIN_VALUE, -256, -2, 256, 1 << 16, Integer.MAX_VALUE};

    public static void main(String[] args) {
        newHasNoObjects();
        newHoldsNothing();
        newRowsAreEmpty();
        newOnesShareNothing();
        putTakesOneToEight();
        putTakesUpTo48();
        putTakesLowestBytes();
        blobMayBeEmpty();
        blobMayHave48();
        blobEmptiesTheBuffer();
        blobTakesLeastNumber();
        blobIsNo25th();
        entryTakesLettersAToZ();
        entryTakesLetterOnce();
        entryTakesBlobsAndTrees();
        entryTakesNoCommitAndNothing();
        entryTakesFour();
        treeMayBeEmpty();
        treeMayHaveFour();
        treeEmptiesTheList();
        treeNeedsItsObjects();
        treeIsNo25th();
        treeWithoutItsObjectsInFullStore();
        clearEmptiesFullRows();
        clearOfEmptyRows();
        commitNumbers();
        commitNeedsTree();
        commitParents();
        commitIsNo25th();
        commitIsNoneBeforeFull();
        Check.end();
    }

    /** "No objects". */
    private static void newHasNoObjects() {
        ObjectDepot x = new ObjectDepot();
        for (int k = 0; k < 24; k++) {
            Check.same("new: object " + k, x.object(k, 0), NONE);
        }
        Check.same("new: clean", x.clean(), 0);
        Check.same("new: the first object's number", x.blob(), 0);
    }

    /** "references that hold nothing"; "at first nothing". */
    private static void newHoldsNothing() {
        for (int r = 0; r < 4; r++) {
            ObjectDepot x = new ObjectDepot();
            Check.same("new: reference " + r, x.reference(r), NONE);
            Check.yes("new: it holds nothing", x.move(r, -1, -1));
        }
        Check.same("new: history", new ObjectDepot().history(0, 0), NONE);
        Check.same("new: pack", new ObjectDepot().pack(0), NONE);
    }

    /** "THE BUFFER .., THE LIST .., THE WIRE ..; all are empty at first". */
    private static void newRowsAreEmpty() {
        ObjectDepot x = new ObjectDepot();
        Check.same("new: wire", x.wire(-1), 0);
        Check.same("new: byte 0 of the wire", x.wire(0), NONE);
        Check.same("new: unpack", x.unpack(), ObjectDepot.BROKEN);
        Check.same("new: the buffer's blob", x.object(x.blob(), 1), 0);
        Check.same("new: the list's tree", x.object(x.tree(), 1), 0);
    }

    private static void newOnesShareNothing() {
        ObjectDepot other = new ObjectDepot();
        String before = Edge.told(other);
        ObjectDepot x = new ObjectDepot();
        Setups.mixed(x, 24);
        Check.yes("another object is as before", Edge.told(other).equals(before));
        Check.same("its buffer", other.object(other.blob(), 1), 0);
        Check.same("its list", other.object(other.tree(), 1), 0);
    }

    /** "false if n is not 1 .. 8". */
    private static void putTakesOneToEight() {
        for (int n = 1; n <= 8; n++) {
            int bytes = n;
            ObjectDepot x = Edge.taken("put " + n, Setups::objects, y -> y.put(bytes, 5), true);
            Check.same("put " + n + ": bytes", x.object(x.blob(), 1), n);
        }
        Edge.refused("put 0", Setups::mixed, x -> x.put(0, 5), false);
        Edge.refused("put -1", Setups::mixed, x -> x.put(-1, 5), false);
        Edge.refused("put 9", Setups::mixed, x -> x.put(9, 5), false);
        for (int n : FAR) {
            Edge.refused("put " + n, Setups::mixed, x -> x.put(n, 5), false);
            Edge.refused("put " + (n + 1), Setups::mixed, x -> x.put(n + 1, 5), false);
        }
    }

    /** "false if .. there would be more than 48". */
    private static void putTakesUpTo48() {
        for (int n = 1; n <= 8; n++) {
            int bytes = n;
            ObjectDepot x = Edge.taken("put " + n + " up to 48", y -> Setups.put(y, 48 - bytes), y -> y.put(bytes, 7), true);
            int k = x.blob();
            Check.same("put " + n + " up to 48: bytes", x.object(k, 1), 48);
            Check.same("put " + n + " up to 48: the last", x.content(k, 47), 7);
            for (int there = 49 - n; there <= 48; there++) {
                int before = there;
                Edge.refused("put " + n + " behind " + there, y -> Setups.put(y, before), y -> y.put(bytes, 7), false);
            }
        }
    }

    /** "The n lowest bytes of bytes, the highest of them first"; "BYTES are 0 .. 255". */
    private static void putTakesLowestBytes() {
        long[] all = {0, -1, Long.MIN_VALUE, Long.MAX_VALUE, 0x80_7f_ff_00_01_fe_81_82L, 255, 256};
        for (long bytes : all) {
            for (int n = 1; n <= 8; n++) {
                ObjectDepot x = new ObjectDepot();
                x.put(n, bytes);
                int k = x.blob();
                for (int i = 0; i < n; i++) {
                    int due = (int) Long.divideUnsigned(bytes, 1L << 8 * (n - 1 - i)) & 255;
                    Check.same("put(" + n + ", " + bytes + "): byte " + i, x.content(k, i), due);
                }
                Check.same("put(" + n + ", " + bytes + "): no more", x.content(k, n), NONE);
            }
        }
    }

    private static void blobIs(String what, ObjectDepot x, int k, int length) {
        Check.same(what + ": kind", x.object(k, 0), Bytes.BLOB);
        Check.same(what + ": bytes", x.object(k, 1), length);
        Check.yes(what + ": name", Bytes.same(Bytes.nameOf(x, k), Bytes.name(Bytes.BLOB, Bytes.contentOf(x, k))));
    }

    /** "The buffer (if it is empty, too) as a blob is stored". */
    private static void blobMayBeEmpty() {
        ObjectDepot x = Edge.taken("an empty blob", Setups::objects, ObjectDepot::blob, Setups.OBJECTS);
        blobIs("an empty blob", x, Setups.OBJECTS, 0);
        Check.same("an empty blob again", x.blob(), Setups.OBJECTS);
    }

    /** "BLOB (kind 3): at most 48 bytes"; each length, as SHA-1 fills each up otherwise. */
    private static void blobMayHave48() {
        for (int n = 0; n <= 48; n++) {
            int bytes = n;
            ObjectDepot x = Edge.taken("a blob of " + n, y -> Setups.put(y, bytes), ObjectDepot::blob, 0);
            blobIs("a blob of " + n, x, 0, n);
        }
    }

    /** "and is empty then". */
    private static void blobEmptiesTheBuffer() {
        ObjectDepot x = Edge.taken("a new blob", y -> Setups.put(y, 48), ObjectDepot::blob, 0);
        Check.same("the buffer behind a new blob", x.object(x.blob(), 1), 0);
        Setups.put(x, 48);
        Check.same("a known blob", x.blob(), 0);
        Check.same("the buffer behind a known blob", x.blob(), 1);
    }

    /** "OBJECTS are held at the NUMBERS 0 .. 23; a new one gets the least number that is free". */
    private static void blobTakesLeastNumber() {
        ObjectDepot x = new ObjectDepot();
        for (int k = 0; k < 24; k++) {
            Check.same("the next number", Bytes.blob(x, "number " + k), k);
        }
        x = new ObjectDepot();
        Setups.mixed(x, 24);
        x.clear();
        Check.same("all lost ones go", x.clean(), 20);
        for (int k = 4; k < 24; k++) {
            Check.same("the least free number", Bytes.blob(x, "number " + k), k);
        }
    }

    private static void withText(ObjectDepot x, int objects, String text) {
        Setups.mixed(x, objects);
        x.clear();
        x.entry(7, Setups.BLOB);
        byte[] bytes = Bytes.of(text);
        x.put(bytes.length, Bytes.number(bytes, 0, bytes.length));
    }

    /** "FULL if it would be a 25th object"; "if there is an object with the same NAME, that is the one". */
    private static void blobIsNo25th() {
        Edge.taken("a 24th object", x -> Setups.mixed(x, 23), ObjectDepot::blob, 23);
        Edge.refused("a 25th object", x -> Setups.mixed(x, 24), ObjectDepot::blob, FULL);
        Edge.refused("an empty 25th", x -> Setups.objects(x, 24), ObjectDepot::blob, FULL);
        Edge.refused("a 25th of 48 bytes", x -> {
            Setups.objects(x, 24);
            Setups.put(x, 48);
        }, ObjectDepot::blob, FULL);
        ObjectDepot x = Edge.taken("one that is there", y -> withText(y, 24, "lost 20"), ObjectDepot::blob, 20);
        Check.same("its buffer is empty then", x.blob(), FULL);
        x.clean();
        Check.same("it is empty", x.object(x.blob(), 1), 0);
    }

    /** "false if letter is not 0 .. 25" ("0 is a, 25 is z"). */
    private static void entryTakesLettersAToZ() {
        for (int letter : new int[] {0, 1, 24, 25}) {
            ObjectDepot x = Edge.taken("letter " + letter, Setups::objects, y -> y.entry(letter, Setups.BLOB), true);
            Check.same("letter " + letter + " in the tree", x.content(x.tree(), 7), 'a' + letter);
        }
        Edge.refused("letter -1", Setups::mixed, x -> x.entry(-1, Setups.BLOB), false);
        Edge.refused("letter 26", Setups::mixed, x -> x.entry(26, Setups.BLOB), false);
        Edge.refused("letter 'a'", Setups::mixed, x -> x.entry('a', Setups.BLOB), false);
        for (int letter : FAR) {
            Edge.refused("letter " + letter, Setups::mixed, x -> x.entry(letter, Setups.BLOB), false);
        }
    }

    /** "there is one with it already". */
    private static void entryTakesLetterOnce() {
        Edge.refused("a letter again", Setups::mixed, x -> x.entry(4, Setups.BLOB), false);
        Edge.refused("a letter for another object", Setups::mixed, x -> x.entry(4, Setups.TREE), false);
        Edge.taken("an object again", Setups::mixed, x -> x.entry(5, Setups.BLOB), true);
        Edge.taken("a letter behind tree", x -> {
            Setups.mixed(x);
            x.tree();
        }, x -> x.entry(4, Setups.BLOB), true);
        Edge.taken("a letter behind clear", x -> {
            Setups.mixed(x);
            x.clear();
        }, x -> x.entry(4, Setups.BLOB), true);
    }

    /** An entry is "100644 if it is of a blob, 40000 if it is of a tree". */
    private static void entryTakesBlobsAndTrees() {
        for (int k : new int[] {Setups.BLOB, Setups.TREE, Setups.LOST}) {
            ObjectDepot x = Edge.taken("object " + k, Setups::objects, y -> y.entry(3, k), true);
            byte[] due = Bytes.entry(x.object(k, 0), 'd', Bytes.nameOf(x, k));
            Check.yes("object " + k + " in the tree", Bytes.same(Bytes.contentOf(x, x.tree()), due));
        }
        Edge.taken("the last object", x -> Setups.mixed(x, 24), x -> x.entry(7, 23), true);
    }

    /** "object k is no blob or tree (or is none)". */
    private static void entryTakesNoCommitAndNothing() {
        Edge.refused("a commit", Setups::mixed, x -> x.entry(7, Setups.COMMIT), false);
        Edge.refused("a free number", Setups::mixed, x -> x.entry(7, Setups.OBJECTS), false);
        Edge.refused("the last number, which is free", x -> Setups.mixed(x, 23), x -> x.entry(7, 23), false);
        Edge.refused("behind the last number", x -> Setups.mixed(x, 24), x -> x.entry(7, 24), false);
        Edge.refused("object -1", x -> Setups.mixed(x, 24), x -> x.entry(7, -1), false);
        Edge.refused("one that is gone", x -> {
            Setups.mixed(x);
            x.clean();
        }, x -> x.entry(7, Setups.LOST), false);
        for (int k : FAR) {
            Edge.refused("object " + k, x -> Setups.mixed(x, 24), x -> x.entry(7, k), false);
        }
    }

    private static void listed(ObjectDepot x, int entries) {
        Setups.objects(x);
        for (int i = 0; i < entries; i++) {
            x.entry(25 - 6 * i, i % 2);
        }
    }

    /** "or the list has four". */
    private static void entryTakesFour() {
        for (int there = 0; there <= 3; there++) {
            int entries = there;
            Edge.taken("an entry behind " + there, x -> listed(x, entries), x -> x.entry(3, Setups.BLOB), true);
        }
        Edge.refused("a fifth entry", x -> listed(x, 4), x -> x.entry(3, Setups.BLOB), false);
        Edge.refused("a fifth entry before all", x -> listed(x, 4), x -> x.entry(0, Setups.BLOB), false);
        Edge.refused("a fifth entry with a letter of the four", x -> listed(x, 4), x -> x.entry(7, Setups.BLOB), false);
    }

    /** "The list (without entries, too) as a tree is stored". */
    private static void treeMayBeEmpty() {
        ObjectDepot x = Edge.taken("an empty tree", Setups::objects, ObjectDepot::tree, Setups.OBJECTS);
        Check.same("an empty tree: kind", x.object(Setups.OBJECTS, 0), Bytes.TREE);
        Check.same("an empty tree: bytes", x.object(Setups.OBJECTS, 1), 0);
        Check.same("an empty tree: reaches itself", x.object(Setups.OBJECTS, 7), 1);
        Check.same("an empty tree again", x.tree(), Setups.OBJECTS);
    }

    /** "TREE (kind 2): at most 4 ENTRIES in ascending order of their letters". */
    private static void treeMayHaveFour() {
        for (int n = 1; n <= 4; n++) {
            int entries = n;
            ObjectDepot x = Edge.taken("a tree of " + n, y -> listed(y, entries), ObjectDepot::tree, Setups.OBJECTS);
            byte[] due = new byte[0];
            for (int i = n - 1; i >= 0; i--) {
                byte[] name = Bytes.nameOf(x, i % 2);
                due = Bytes.of(due, Bytes.entry(i % 2 == 0 ? Bytes.BLOB : Bytes.TREE, (char) ('z' - 6 * i), name));
            }
            Check.yes("a tree of " + n + ": content", Bytes.same(Bytes.contentOf(x, Setups.OBJECTS), due));
            Check.yes("a tree of " + n + ": name",
                Bytes.same(Bytes.nameOf(x, Setups.OBJECTS), Bytes.name(Bytes.TREE, due)));
        }
    }

    /** "and is empty then". */
    private static void treeEmptiesTheList() {
        ObjectDepot x = Edge.taken("a new tree", y -> listed(y, 4), ObjectDepot::tree, Setups.OBJECTS);
        Check.same("the list behind a new tree", x.object(x.tree(), 1), 0);
        for (int i = 0; i < 4; i++) {
            Check.yes("four fit again", x.entry(25 - 6 * i, i % 2));
        }
        Check.same("a known tree", x.tree(), Setups.OBJECTS);
        Check.same("the list behind a known tree", x.object(x.tree(), 1), 0);
    }

    private static void lostEntry(ObjectDepot x) {
        Setups.mixed(x);
        x.entry(25, Setups.LOST);
        x.clean();
    }

    /** "NONE if there is no object any more with one of the NAMEs in the list (the list stays)". */
    private static void treeNeedsItsObjects() {
        Edge.refused("its last object is gone", EdgesOfObjectsTest::lostEntry, ObjectDepot::tree, NONE);
        Edge.refused("its number has another object", x -> {
            lostEntry(x);
            x.blob();
        }, ObjectDepot::tree, NONE);
        Edge.refused("all are gone", x -> {
            Setups.mixed(x);
            x.move(1, Setups.COMMIT, -1);
            x.clean();
        }, ObjectDepot::tree, NONE);
        ObjectDepot x = Edge.taken("it is back at another number", y -> {
            lostEntry(y);
            y.blob();
            Bytes.blob(y, "lost");
        }, ObjectDepot::tree, 6);
        Check.yes("it reaches that number", x.reaches(6, 5));
        Check.no("and not the other", x.reaches(6, 4));
    }

    /** "FULL if it would be a 25th object". */
    private static void treeIsNo25th() {
        Edge.taken("a 24th object", x -> Setups.mixed(x, 23), ObjectDepot::tree, 23);
        Edge.refused("a 25th object", x -> Setups.mixed(x, 24), ObjectDepot::tree, FULL);
        Edge.refused("an empty 25th", x -> Setups.objects(x, 24), ObjectDepot::tree, FULL);
        Consumer<ObjectDepot> known = y -> {
            Setups.objects(y, 24);
            y.entry(0, Setups.BLOB);
        };
        ObjectDepot x = Edge.taken("one that is there", known, ObjectDepot::tree, Setups.TREE);
        x.clean();
        Check.same("its list is empty then", x.object(x.tree(), 1), 0);
    }

    /** Both reasons: the document names NONE first, and without its object it would be no 25th one. */
    private static void treeWithoutItsObjectsInFullStore() {
        Edge.refused("gone, and full", x -> {
            lostEntry(x);
            x.blob();
            for (int k = 5; k < 24; k++) {
                Bytes.blob(x, "lost " + k);
            }
        }, ObjectDepot::tree, NONE);
    }

    /** "The buffer and the list become empty". */
    private static void clearEmptiesFullRows() {
        ObjectDepot x = new ObjectDepot();
        listed(x, 4);
        Setups.put(x, 48);
        Setups.feed(x, 600);
        String before = Edge.told(x);
        x.clear();
        Check.yes("all that is seen stays", Edge.told(x).equals(before));
        for (int i = 0; i < 6; i++) {
            Check.yes("48 bytes fit", x.put(8, i));
        }
        for (int i = 0; i < 4; i++) {
            Check.yes("four entries fit", x.entry(i, 0));
        }
        x.clear();
        Check.same("an empty buffer", x.object(x.blob(), 1), 0);
        Check.same("an empty list", x.object(x.tree(), 1), 0);
    }

    private static void clearOfEmptyRows() {
        ObjectDepot x = new ObjectDepot();
        x.clear();
        Check.yes("clear of a new one changes nothing", Edge.told(x).equals(Edge.told(new ObjectDepot())));
        Check.same("the buffer stays empty", x.object(x.blob(), 1), 0);
        Check.same("the list stays empty", x.object(x.tree(), 1), 0);
    }

    /** "number is not 0 .. 999"; "without a 0 at its front (0 is one 0)". */
    private static void commitNumbers() {
        for (int number : new int[] {0, 1, 9, 10, 11, 99, 100, 101, 109, 110, 998, 999}) {
            ObjectDepot x = Edge.taken("number " + number, Setups::mixed, y -> y.commit(Setups.TREE, -1, -1, number),
                number == 1 ? Setups.FIRST_COMMIT : Setups.OBJECTS);
            byte[] due = Bytes.commit(number, Bytes.nameOf(x, Setups.TREE));
            int k = number == 1 ? Setups.FIRST_COMMIT : Setups.OBJECTS;
            Check.yes("number " + number + ": content", Bytes.same(Bytes.contentOf(x, k), due));
            Check.yes("number " + number + ": name", Bytes.same(Bytes.nameOf(x, k), Bytes.name(Bytes.COMMIT, due)));
        }
        Edge.refused("number -1", Setups::mixed, x -> x.commit(Setups.TREE, -1, -1, -1), NONE);
        Edge.refused("number 1000", Setups::mixed, x -> x.commit(Setups.TREE, -1, -1, 1000), NONE);
        Edge.refused("number -999", Setups::mixed, x -> x.commit(Setups.TREE, -1, -1, -999), NONE);
        Edge.refused("the least number", Setups::mixed, x -> x.commit(Setups.TREE, -1, -1, Integer.MIN_VALUE), NONE);
        Edge.refused("the greatest number", Setups::mixed, x -> x.commit(Setups.TREE, -1, -1, Integer.MAX_VALUE), NONE);
    }

    /** "NONE if tree is no tree". */
    private static void commitNeedsTree() {
        Edge.taken("a tree", Setups::mixed, x -> x.commit(Setups.TREE, -1, -1, 5), Setups.OBJECTS);
        int[] none = {Setups.BLOB, Setups.COMMIT, Setups.OBJECTS, -1, 23, 24};
        for (int k : none) {
            Edge.refused("tree " + k, Setups::mixed, x -> x.commit(k, -1, -1, 5), NONE);
        }
        for (int k : FAR) {
            Edge.refused("tree " + k, Setups::mixed, x -> x.commit(k, -1, -1, 5), NONE);
        }
        Edge.refused("a tree that is gone", x -> {
            Setups.mixed(x);
            x.tree();
            x.clean();
        }, x -> x.commit(Setups.OBJECTS, -1, -1, 5), NONE);
    }

    private static void parentsAre(String what, int p, int q, int... parents) {
        for (int number : new int[] {5, 50, 999}) {
            parentsAre(what + " and " + number, number, p, q, parents);
        }
    }

    private static void parentsAre(String what, int number, int p, int q, int[] parents) {
        ObjectDepot x = Edge.taken(what, Setups::mixed, y -> y.commit(Setups.TREE, p, q, number), Setups.OBJECTS);
        byte[][] names = new byte[parents.length][];
        for (int i = 0; i < names.length; i++) {
            names[i] = Bytes.nameOf(x, parents[i]);
        }
        byte[] due = Bytes.commit(number, Bytes.nameOf(x, Setups.TREE), names);
        Check.yes(what + ": content", Bytes.same(Bytes.contentOf(x, Setups.OBJECTS), due));
        Check.yes(what + ": name", Bytes.same(Bytes.nameOf(x, Setups.OBJECTS), Bytes.name(Bytes.COMMIT, due)));
    }

    /** "each is none if it is -1; if they are the same, it stands there twice"; NONE if it "is not -1 and no commit". */
    private static void commitParents() {
        int a = Setups.FIRST_COMMIT;
        int b = Setups.COMMIT;
        parentsAre("no parents", -1, -1);
        parentsAre("p alone", a, -1, a);
        parentsAre("q alone", -1, a, a);
        parentsAre("both", a, b, a, b);
        parentsAre("both turned round", b, a, b, a);
        parentsAre("twice the same", b, b, b, b);
        int[] none = {Setups.BLOB, Setups.TREE, Setups.OBJECTS, -2, 23, 24, Integer.MIN_VALUE, Integer.MAX_VALUE};
        for (int k : none) {
            Edge.refused("p " + k, Setups::mixed, x -> x.commit(Setups.TREE, k, -1, 5), NONE);
            Edge.refused("p " + k + " with q", Setups::mixed, x -> x.commit(Setups.TREE, k, a, 5), NONE);
            Edge.refused("q " + k, Setups::mixed, x -> x.commit(Setups.TREE, -1, k, 5), NONE);
            Edge.refused("q " + k + " with p", Setups::mixed, x -> x.commit(Setups.TREE, a, k, 5), NONE);
        }
    }

    /** "FULL if it would be a 25th object". */
    private static void commitIsNo25th() {
        Edge.taken("a 24th object", x -> Setups.mixed(x, 23), x -> x.commit(Setups.TREE, -1, -1, 5), 23);
        Edge.refused("a 25th object", x -> Setups.mixed(x, 24), x -> x.commit(Setups.TREE, -1, -1, 5), FULL);
        Edge.refused("a 25th with parents", x -> Setups.mixed(x, 24), x -> x.commit(Setups.TREE, 2, 3, 999), FULL);
        Edge.taken("one that is there", x -> Setups.mixed(x, 24), x -> x.commit(Setups.TREE, 2, -1, 2), Setups.COMMIT);
    }

    /** A commit that cannot be would be no 25th object. */
    private static void commitIsNoneBeforeFull() {
        Edge.refused("full, and no tree", x -> Setups.mixed(x, 24), x -> x.commit(0, -1, -1, 5), NONE);
        Edge.refused("full, and no commit", x -> Setups.mixed(x, 24), x -> x.commit(Setups.TREE, 0, -1, 5), NONE);
        Edge.refused("full, and 1000", x -> Setups.mixed(x, 24), x -> x.commit(Setups.TREE, -1, -1, 1000), NONE);
    }
}
