import java.util.ArrayList;
import java.util.Arrays;
import java.util.List;

/** Promise 16: packs are compared byte by byte with ones that are put together by hand. */
public final class PackTest {
    private static final int NONE = ObjectDepot.NONE;
    private static final int FULL = ObjectDepot.FULL;

    public static void main(String[] args) {
        packRefuses();
        membersStandInOrder();
        onlyReachedOnesAreMembers();
        deltaIsMade();
        leastPlaceAndLongestRun();
        runsEndWithTheBase();
        threeBytesAreNoCopy();
        deltaMustMakeItShorter();
        shortestAndNearestBase();
        onlyThreeMembersBack();
        onlySameKind();
        chainsStayBelowDepth();
        chainsBeginAnew();
        chainsOfCommits();
        copyOf127();
        insertOf127();
        tooLongChangesNothing();
        sixHundredBytesFit();
        Check.end();
    }

    private static void packIs(String what, ObjectDepot x, int depth, byte[]... members) {
        Check.same(what + ": members", x.pack(depth), members.length);
        byte[] due = Bytes.pack(members);
        byte[] got = Bytes.wireOf(x);
        Check.same(what + ": length", got.length, due.length);
        for (int i = 0; i < Math.min(got.length, due.length); i++) {
            Check.same(what + ": byte " + i, got[i] & 255, due[i] & 255);
        }
    }

    private static byte[] whole(ObjectDepot x, int k) {
        return Bytes.whole(x.object(k, 0), Bytes.contentOf(x, k));
    }

    private static byte[] back(ObjectDepot x, int k, int d, Object... delta) {
        return Bytes.deltaBack(x.object(k, 1), d, Bytes.of(delta));
    }

    /** Blobs of at most four texts (objects 0 ..), a tree of them and a commit, which reference 0 holds. */
    private static ObjectDepot held(String... texts) {
        ObjectDepot x = new ObjectDepot();
        for (int i = 0; i < texts.length; i++) {
            Check.same("blob " + i, Bytes.blob(x, texts[i]), i);
            x.entry(i, i);
        }
        x.move(0, -1, x.commit(x.tree(), -1, -1, 1));
        return x;
    }

    /** The blobs' members as due, and behind them the tree and the commit, which stand whole. */
    private static void blobsAre(String what, ObjectDepot x, int depth, byte[]... blobs) {
        List<byte[]> members = new ArrayList<>(List.of(blobs));
        members.add(whole(x, blobs.length));
        members.add(whole(x, blobs.length + 1));
        packIs(what, x, depth, members.toArray(new byte[0][]));
    }

    private static void packRefuses() {
        ObjectDepot x = new ObjectDepot();
        x.feed(2, 0x0102);
        Check.same("no references", x.pack(0), NONE);
        x.commit(x.tree(), -1, -1, 1);
        Check.same("none that holds", x.pack(0), NONE);
        x.move(3, -1, 1);
        for (int depth : new int[] {-1, 6, Integer.MIN_VALUE, Integer.MAX_VALUE}) {
            Check.same("depth " + depth, x.pack(depth), NONE);
        }
        Check.same("the wire stays", x.wire(-1), 2);
        for (int depth = 0; depth <= 5; depth++) {
            packIs("depth " + depth, x, depth, whole(x, 0), whole(x, 1));
        }
        x.move(3, 1, -1);
        Check.same("none that holds any more", x.pack(0), NONE);
        Check.yes("the wire stays again", x.wire(-1) > 2);
    }

    private static void membersStandInOrder() {
        ObjectDepot x = new ObjectDepot();
        x.tree();
        x.commit(0, -1, -1, 1);
        Bytes.blob(x, "one");
        x.entry(0, 2);
        x.entry(1, 0);
        x.tree();
        x.commit(3, 1, -1, 2);
        Bytes.blob(x, "two");
        x.entry(0, 5);
        x.tree();
        x.commit(6, 4, -1, 3);
        x.move(0, -1, 7);
        packIs("kinds, then numbers", x, 0, whole(x, 2), whole(x, 5), whole(x, 0), whole(x, 3), whole(x, 6),
            whole(x, 1), whole(x, 4), whole(x, 7));
    }

    private static void onlyReachedOnesAreMembers() {
        ObjectDepot x = new ObjectDepot();
        x.tree();
        x.commit(0, -1, -1, 1);
        x.commit(0, -1, -1, 2);
        x.commit(0, -1, -1, 3);
        Bytes.blob(x, "lost");
        x.move(2, -1, 3);
        packIs("one reference", x, 0, whole(x, 0), whole(x, 3));
        x.move(1, -1, 1);
        x.move(3, -1, 3);
        packIs("three references to two", x, 0, whole(x, 0), whole(x, 1), whole(x, 3));
    }

    private static void deltaIsMade() {
        ObjectDepot x = held("the quick brown fox jumps", "a quick red fox jumps, the quick one");
        // "a" stands in no run of four; " quick " does, from place 3 on.
        blobsAre("copies and inserts", x, 1, whole(x, 0), back(x, 1, 1, 1, "a", 135, 3, 3, "red", 138, 15,
            2, ", ", 138, 0, 3, "one"));
        blobsAre("depth 0 has none", x, 0, whole(x, 0), whole(x, 1));
    }

    private static void leastPlaceAndLongestRun() {
        ObjectDepot x = held("abcd_abcdef_abcdef_xyz", "abcdef!abcd.....abcd");
        // The longest run counts first, the least place second.
        blobsAre("runs", x, 5, whole(x, 0), back(x, 1, 1, 134, 5, 1, "!", 132, 0, 5, ".....", 132, 0));
    }

    /** What stood behind a content's end before belongs to no run. */
    private static void runsEndWithTheBase() {
        ObjectDepot x = new ObjectDepot();
        Bytes.blob(x, "0123456789ABCDEF");
        x.clean();
        String[] texts = {"0123456789", "0123456789ABC"};
        for (int i = 0; i < 2; i++) {
            x.entry(i, Bytes.blob(x, texts[i]));
        }
        x.move(0, -1, x.commit(x.tree(), -1, -1, 1));
        blobsAre("a run up to the end", x, 5, whole(x, 0), back(x, 1, 1, 138, 0, 3, "ABC"));
    }

    private static void threeBytesAreNoCopy() {
        ObjectDepot x = held("abc-defg-hijklmnop", "abc+defg+hijklmnop");
        blobsAre("three and four", x, 5, whole(x, 0),
            back(x, 1, 1, 4, "abc+", 132, 4, 1, "+", 137, 9));
    }

    private static void deltaMustMakeItShorter() {
        // A delta of 2 bytes: the member has 6, and the whole one as many or one more.
        ObjectDepot x = held("abcdefgh", "abcd");
        blobsAre("as long", x, 5, whole(x, 0), whole(x, 1));
        x = held("abcdefgh", "abcde");
        blobsAre("one shorter", x, 5, whole(x, 0), back(x, 1, 1, 133, 0));
        x = held("abcdefgh", "");
        blobsAre("an empty one", x, 5, whole(x, 0), whole(x, 1));
        x = held("", "abcdefgh");
        blobsAre("from an empty one", x, 5, whole(x, 0), whole(x, 1));
    }

    private static void shortestAndNearestBase() {
        ObjectDepot x = held("0123456789ABCDEF", "_________________", "0123456789ABCDEF!");
        blobsAre("the one that gives a shorter delta", x, 5, whole(x, 0), whole(x, 1),
            back(x, 2, 2, 144, 0, 1, "!"));
        x = held("0123456789ABCDEF<", ">0123456789ABCDEF", "0123456789ABCDEF");
        blobsAre("the nearest of two", x, 5, whole(x, 0), back(x, 1, 1, 1, ">", 144, 0), back(x, 2, 1, 144, 1));
        x = held("0123456789ABCDEF<", ">>0123456789ABCDEF", "=0123456789ABCDEF<");
        blobsAre("the far one is shorter", x, 5, whole(x, 0), back(x, 1, 1, 2, ">>", 144, 0),
            back(x, 2, 2, 1, "=", 145, 0));
    }

    private static void onlyThreeMembersBack() {
        ObjectDepot x = held("0123456789ABCDEF", "aaaaaaa", "bbbbbbb", "0123456789ABCDEF!");
        blobsAre("three back", x, 5, whole(x, 0), whole(x, 1), whole(x, 2), back(x, 3, 3, 144, 0, 1, "!"));

        x = held("0123456789ABCDEF", "aaaaaaa", "bbbbbbb", "ccccccc");
        Bytes.blob(x, "0123456789ABCDEF!");
        x.entry(0, 6);
        x.move(1, -1, x.commit(x.tree(), -1, -1, 1));
        Check.same("members", x.pack(5), 9);
        int at = 2 + 18 + 3 * 9;
        Check.same("four back is too far: whole", x.wire(at), Bytes.BLOB);
        Check.same("four back is too far: its length", x.wire(at + 1), 17);
    }

    private static void onlySameKind() {
        // A blob holds what the tree holds, but is of another kind.
        ObjectDepot x = new ObjectDepot();
        Bytes.blob(x, "b");
        Bytes.takeIn(x, Bytes.pack(Bytes.whole(Bytes.BLOB, Bytes.entry(Bytes.BLOB, 'a', Bytes.nameOf(x, 0)))));
        x.entry(0, 0);
        x.tree();
        x.entry(25, 1);
        x.tree();
        x.move(0, -1, x.commit(2, -1, -1, 1));
        x.move(1, -1, x.commit(3, -1, -1, 1));
        x.pack(5);
        int at = 2 + 3 + 31;
        Check.same("the tree behind the same bytes in a blob is whole", x.wire(at), Bytes.TREE);
        Check.same("it has 29 bytes", x.wire(at + 1), 29);
    }

    private static void chainsStayBelowDepth() {
        ObjectDepot x = held("0123456789ABCDEF", "0123456789ABCDEFa", "0123456789ABCDEFab");
        blobsAre("depth 0", x, 0, whole(x, 0), whole(x, 1), whole(x, 2));
        // The nearest has a chain of 1 already, so the one before it is taken.
        blobsAre("depth 1", x, 1, whole(x, 0), back(x, 1, 1, 144, 0, 1, "a"), back(x, 2, 2, 144, 0, 2, "ab"));
        blobsAre("depth 2", x, 2, whole(x, 0), back(x, 1, 1, 144, 0, 1, "a"), back(x, 2, 1, 145, 0, 1, "b"));
    }

    private static void chainsBeginAnew() {
        ObjectDepot x = held("0123456789ABCDEF", "0123456789ABCDEFa");
        Check.same("the second is a delta", x.pack(1), 4);
        x.move(0, 3, -1);
        x.clean();
        String[] texts = {"................", "0123456789ABCDEFb", "0123456789ABCDEFbc"};
        for (int i = 0; i < 3; i++) {
            x.entry(i, Bytes.blob(x, texts[i]));
        }
        x.move(0, -1, x.commit(x.tree(), -1, -1, 1));
        blobsAre("now the second is whole", x, 1, whole(x, 0), whole(x, 1), back(x, 2, 1, 145, 0, 1, "c"));
    }

    /** Commits without parents that differ in their number alone: each is like all others. */
    private static void chainsOfCommits() {
        ObjectDepot x = new ObjectDepot();
        x.tree();
        for (int i = 0; i < 4; i++) {
            x.move(i, -1, x.commit(0, -1, -1, 10 + i));
        }
        byte[][] all = new byte[5][];
        all[0] = whole(x, 0);
        all[1] = whole(x, 1);
        for (int depth = 1; depth <= 3; depth++) {
            for (int i = 1; i < 4; i++) {
                // All deltas are as long, so the nearest with a chain below DEPTH counts.
                int d = i <= depth ? 1 : i - depth + 1;
                all[1 + i] = back(x, 1 + i, d, 128 + 48, 0, 2, i + "\n");
            }
            packIs("commits with depth " + depth, x, depth, all);
        }
    }

    private static void lastMemberIs(String what, ObjectDepot x, byte[] due) {
        int from = x.wire(-1) - 4 - due.length;
        for (int i = 0; i < due.length; i++) {
            Check.same(what + ": byte " + i, x.wire(from + i), due[i] & 255);
        }
    }

    private static void copyOf127() {
        ObjectDepot x = new ObjectDepot();
        x.tree();
        x.commit(0, -1, -1, 0);
        x.move(0, -1, x.commit(0, 1, 1, 998));
        x.move(1, -1, x.commit(0, 1, 1, 999));
        Check.same("copy of 127: members", x.pack(5), 4);
        lastMemberIs("copy of 127", x, back(x, 3, 1, 255, 0, 128 + 18, 127, 2, "9\n"));
    }

    /** The last commit shares only its first word and its number with the one two before it. */
    private static void insertOf127() {
        ObjectDepot x = new ObjectDepot();
        Bytes.blob(x, "b");
        x.entry(0, 0);
        x.tree();
        x.tree();
        x.move(0, -1, x.commit(2, -1, -1, 999));
        x.commit(2, -1, -1, 5);
        x.move(1, -1, x.commit(1, 4, 4, 999));
        Check.same("insert of 127: members", x.pack(5), 6);
        String target = Model.text(Bytes.contentOf(x, 5));
        lastMemberIs("insert of 127", x, back(x, 5, 2, 128 + 5, 0, 127, target.substring(5, 132),
            9, target.substring(132, 141), 128 + 6, 45));
    }

    private static void tooLongChangesNothing() {
        ObjectDepot x = new ObjectDepot();
        x.tree();
        int last = -1;
        for (int i = 0; i < 12; i++) {
            last = x.commit(0, last, -1, i);
        }
        x.move(0, -1, last);
        x.feed(3, 0x010203);
        Check.same("too long", x.pack(0), FULL);
        Check.same("the wire stays", x.wire(-1), 3);
        Check.same("the wire stays", x.wire(2), 3);
        Check.same("a wrong depth", x.pack(7), NONE);
        Check.same("no objects went", Bytes.count(x), 13);
    }

    /** Whole packs of 599 and 600 bytes, and all that are a little longer. */
    private static void sixHundredBytesFit() {
        for (int length = 599; length <= 720; length++) {
            ObjectDepot x = new ObjectDepot();
            int members = Setups.packOf(x, length);
            Check.same("pack of " + length, x.pack(0), length > 600 ? FULL : members);
            Check.same("wire of " + length, x.wire(-1), length > 600 ? 0 : length);
            if (length <= 600) {
                byte[] wire = Bytes.wireOf(x);
                Check.yes("its sum", Bytes.same(wire, Bytes.withSum(Arrays.copyOf(wire, length - 4))));
                x.move(0, x.reference(0), -1);
                Check.same("cleaned", x.clean(), members);
                Check.same("it can be taken in", x.unpack(), members);
            }
        }
    }
}
