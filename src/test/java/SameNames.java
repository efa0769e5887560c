/**
 * Promise 17, where contents of different kinds have one NAME. No such contents are known, so .ci/run
 * runs this (and it is no ...Test for that reason) with a copy of the class that has few NAMEs.
 */
public final class SameNames {
    private static final int LACKING = ObjectDepot.LACKING;
    private static final byte[] TREE = Bytes.whole(Bytes.TREE, new byte[0]);
    private static final byte[] TREE_NAME = Bytes.name(Bytes.TREE, new byte[0]);
    private static final byte[] COMMIT = Bytes.whole(Bytes.COMMIT, Bytes.commit(1, TREE_NAME));
    private static final byte[] COMMIT_NAME = Bytes.name(Bytes.COMMIT, Bytes.commit(1, TREE_NAME));

    private SameNames() {
    }

    public static void main(String[] args) {
        namedTree("an entry", Bytes.whole(Bytes.TREE, Bytes.entry(Bytes.TREE, 'a', TREE_NAME)));
        namedTree("a commit's tree", Bytes.whole(Bytes.COMMIT, Bytes.commit(2, TREE_NAME)));
        namedCommit("a parent", Bytes.whole(Bytes.COMMIT, Bytes.commit(2, TREE_NAME, COMMIT_NAME)));
        namedCommit("a second parent", Bytes.whole(Bytes.COMMIT, Bytes.commit(2, TREE_NAME, COMMIT_NAME, COMMIT_NAME)));
        namedBlob();
        Check.end();
    }

    private static byte[] blobNamed(byte[] name) {
        for (int i = 0; i < 100_000; i++) {
            byte[] text = Bytes.of("blob " + i);
            if (Bytes.same(Bytes.name(Bytes.BLOB, text), name)) {
                return Bytes.whole(Bytes.BLOB, text);
            }
        }
        throw new IllegalStateException("no blob has that name: are there few names?");
    }

    private static byte[] treeNamed(byte[] name, byte[] blobName) {
        for (int i = 0; i < 26 * 26; i++) {
            byte[] tree = Bytes.of(Bytes.entry(Bytes.BLOB, (char) ('a' + i / 26), blobName),
                Bytes.entry(Bytes.BLOB, (char) ('a' + i % 26), blobName));
            if (i / 26 < i % 26 && Bytes.same(Bytes.name(Bytes.TREE, tree), name)) {
                return Bytes.whole(Bytes.TREE, tree);
            }
        }
        throw new IllegalStateException("no tree has that name: are there few names?");
    }

    private static void takenOrLacking(String what, ObjectDepot x, boolean lacks, byte[]... members) {
        int answer = Bytes.takeIn(x, Bytes.pack(members));
        Check.yes(what + " answered " + answer, lacks ? answer == LACKING : answer >= 0);
    }

    private static void namedTree(String what, byte[] naming) {
        byte[] blob = blobNamed(TREE_NAME);
        takenOrLacking(what + ": only a blob has that name", new ObjectDepot(), true, blob, naming);
        takenOrLacking(what + ": a member behind the blob", new ObjectDepot(), false, blob, naming, TREE);
        takenOrLacking(what + ": a member before the blob", new ObjectDepot(), false, TREE, naming, blob);
        ObjectDepot holding = new ObjectDepot();
        holding.tree();
        takenOrLacking(what + ": in the store", holding, false, blob, naming);
        ObjectDepot other = new ObjectDepot();
        takenOrLacking("the blob", other, false, blob);
        takenOrLacking(what + ": only a blob of the store", other, true, naming);
        takenOrLacking(what + ": a blob of the store and a member", other, false, naming, TREE);
    }

    private static void namedCommit(String what, byte[] naming) {
        byte[] blob = blobNamed(COMMIT_NAME);
        takenOrLacking(what + ": only a blob has that name", new ObjectDepot(), true, TREE, blob, naming);
        takenOrLacking(what + ": a member behind the blob", new ObjectDepot(), false, TREE, blob, naming, COMMIT);
        ObjectDepot holding = new ObjectDepot();
        holding.commit(holding.tree(), -1, -1, 1);
        takenOrLacking(what + ": in the store", holding, false, blob, naming);
    }

    private static void namedBlob() {
        byte[] text = Bytes.of("text");
        byte[] name = Bytes.name(Bytes.BLOB, text);
        byte[] naming = Bytes.whole(Bytes.TREE, Bytes.entry(Bytes.BLOB, 'a', name));
        byte[] blob = Bytes.whole(Bytes.BLOB, text);
        ObjectDepot holding = new ObjectDepot();
        Bytes.blob(holding, "text");
        byte[] tree = treeNamed(name, name);
        takenOrLacking("an entry of a blob: a member behind the tree", new ObjectDepot(), false, tree, naming, blob);
        takenOrLacking("an entry of a blob: in the store", holding, false, tree, naming);
    }
}
