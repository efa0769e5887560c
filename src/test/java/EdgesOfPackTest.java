import java.util.function.Consumer;

/** The edges that the document names in Promise 16, WRITING and MADE: a test for each sentence. */
public final class EdgesOfPackTest {
    private static final int NONE = ObjectDepot.NONE;
    private static final int FULL = ObjectDepot.FULL;

    public static void main(String[] args) {
        packTakesDepth0To5();
        packNeedsReference();
        packOfEachReference();
        packTakesUpTo600();
        packIsNoneBeforeFull();
        wireBecomesPack();
        packOfTwoMembers();
        packOf24Members();
        runsOfFourAreCopies();
        insertsOf127();
        copiesOf127();
        leastPlaceOfLongestRuns();
        emptyContents();
        deltaIsShorter();
        threeMembersBefore();
        chainIsBelowDepth();
        shortestDelta();
        nearestOfSeveral();
        sameKind();
        Check.end();
    }

    /** "NONE if .. depth is not 0 .. 5". */
    private static void packTakesDepth0To5() {
        for (int depth = 0; depth <= 5; depth++) {
            int d = depth;
            Edge.taken("depth " + depth, Setups::mixed, x -> x.pack(d), 4);
        }
        for (int depth : new int[] {-1, 6, Integer.MIN_VALUE, -256, 256, 1 << 16, Integer.MAX_VALUE}) {
            Edge.refused("depth " + depth, Setups::mixed, x -> x.pack(depth), NONE);
        }
    }

    /** "NONE if no reference holds anything". */
    private static void packNeedsReference() {
        Consumer<ObjectDepot> unheld = x -> {
            Setups.mixed(x);
            x.move(1, Setups.COMMIT, -1);
        };
        for (int depth = 0; depth <= 5; depth++) {
            int d = depth;
            Edge.refused("no objects", x -> Setups.feed(x, 7), x -> x.pack(d), NONE);
            Edge.refused("none that holds", unheld, x -> x.pack(d), NONE);
        }
        Edge.refused("none that holds, and no depth", unheld, x -> x.pack(6), NONE);
    }

    /** "a pack of all references". */
    private static void packOfEachReference() {
        for (int r = 0; r < 4; r++) {
            int holder = r;
            Edge.taken("reference " + r + " alone", x -> {
                Setups.mixed(x);
                x.move(1, Setups.COMMIT, -1);
                x.move(holder, -1, Setups.FIRST_COMMIT);
            }, x -> x.pack(0), 3);
        }
        Edge.taken("all hold the same", x -> {
            Setups.mixed(x);
            for (int r = 0; r < 4; r++) {
                x.move(r, x.reference(r), Setups.COMMIT);
            }
        }, x -> x.pack(0), 4);
    }

    private static int wholeLength(ObjectDepot x) {
        int length = 6;
        for (int k = 0; k < Bytes.count(x); k++) {
            length += 2 + x.object(k, 1);
        }
        return length;
    }

    /** "FULL if it would have more than 600 bytes". */
    private static void packTakesUpTo600() {
        for (int length = 599; length <= 710; length++) {
            // Behind 607 those where the last member, of 101 bytes, begins just before or at the end.
            if (length > 607 && length < 699) {
                continue;
            }
            ObjectDepot x = new ObjectDepot();
            int members = Setups.packOf(x, length);
            int bytes = length;
            Check.same("the length to be", wholeLength(x), length);
            Consumer<ObjectDepot> objects = y -> {
                Setups.packOf(y, bytes);
                y.put(2, 7);
                Setups.feed(y, 600);
            };
            if (length <= 600) {
                x = Edge.taken("a pack of " + length, objects, y -> y.pack(0), members);
                Check.same("its wire", x.wire(-1), length);
            } else {
                Edge.refused("a pack of " + length, objects, y -> y.pack(0), FULL);
            }
        }
        Edge.refused("a pack of far more", EdgesOfPackTest::longHistory, y -> y.pack(5), FULL);
    }

    private static void longHistory(ObjectDepot x) {
        x.tree();
        int last = -1;
        for (int i = 0; i < 23; i++) {
            last = x.commit(0, last, last, 100 + i);
        }
        x.move(0, -1, last);
    }

    private static void packIsNoneBeforeFull() {
        Edge.refused("too long, and no depth", y -> Setups.packOf(y, 601), y -> y.pack(6), NONE);
        Edge.refused("too long, and no depth", y -> Setups.packOf(y, 601), y -> y.pack(-1), NONE);
    }

    private static byte[] whole(ObjectDepot x, int k) {
        return Bytes.whole(x.object(k, 0), Bytes.contentOf(x, k));
    }

    private static byte[] back(ObjectDepot x, int k, int d, Object... delta) {
        return Bytes.deltaBack(x.object(k, 1), d, Bytes.of(delta));
    }

    private static void wireIs(String what, ObjectDepot x, byte[]... members) {
        Check.yes(what + ": the wire", Bytes.same(Bytes.wireOf(x), Bytes.pack(members)));
    }

    /** "The wire becomes a pack": nothing is left of what it was. */
    private static void wireBecomesPack() {
        for (int before : new int[] {0, 1, 600}) {
            ObjectDepot x = Edge.taken("behind a wire of " + before, y -> {
                Setups.objects(y);
                Setups.feed(y, before);
            }, y -> y.pack(0), 4);
            wireIs("behind a wire of " + before, x, whole(x, 0), whole(x, 1), whole(x, 2), whole(x, 3));
        }
    }

    /** The fewest: a commit and its tree. */
    private static void packOfTwoMembers() {
        ObjectDepot x = Edge.taken("two members", y -> y.move(0, -1, y.commit(y.tree(), -1, -1, 1)), y -> y.pack(5), 2);
        wireIs("two members", x, whole(x, 0), whole(x, 1));
    }

    /** "the number of its MEMBERS, 1 .. 24": 24 of them find room only as deltas of small contents. */
    private static void packOf24Members() {
        Consumer<ObjectDepot> small = EdgesOfPackTest::smallContents;
        ObjectDepot x = Edge.taken("24 members", small, y -> y.pack(5), 24);
        Check.same("the number in it", x.wire(1), 24);
        Check.same("its bytes", x.wire(-1), 599);
        ObjectDepot other = new ObjectDepot();
        Check.same("all can be taken in", Bytes.takeIn(other, Bytes.wireOf(x)), 24);
        for (int k = 0; k < 24; k++) {
            Check.yes("object " + k + " came along", other.find(x.object(k, 2), x.object(k, 3), x.object(k, 4),
                x.object(k, 5), x.object(k, 6)) >= 0);
        }
        Edge.refused("24 members without deltas", small, y -> y.pack(0), FULL);
    }

    /** 14 blobs, 6 trees, each but the first naming the one before it, and 4 commits. */
    private static void smallContents(ObjectDepot x) {
        x.blob();
        for (int i = 1; i < 14; i++) {
            x.put(1, 159 + i);
            x.blob();
        }
        x.entry(0, 0);
        int tree = x.tree();
        for (int blob = 1; blob <= 10; blob += 3) {
            x.entry(0, blob);
            x.entry(1, blob + 1);
            x.entry(2, blob + 2);
            x.entry(3, tree);
            tree = x.tree();
        }
        x.entry(0, 13);
        x.entry(3, tree);
        tree = x.tree();
        for (int r = 0; r < 4; r++) {
            x.move(r, -1, x.commit(tree, -1, -1, r));
        }
    }

    /** Blobs of at most four texts (objects 0 ..), a tree of them and a commit, which reference 0 holds. */
    private static ObjectDepot held(String... texts) {
        ObjectDepot x = new ObjectDepot();
        for (int i = 0; i < texts.length; i++) {
            Bytes.blob(x, texts[i]);
            x.entry(i, i);
        }
        x.move(0, -1, x.commit(x.tree(), -1, -1, 1));
        return x;
    }

    /** The second of two blobs as due, behind the first, which stands whole. */
    private static void secondIs(String what, String base, String target, Object... delta) {
        ObjectDepot x = held(base, target);
        Check.same(what, x.pack(5), 4);
        byte[] second = delta.length == 0 ? whole(x, 1) : back(x, 1, 1, delta);
        wireIs(what, x, whole(x, 0), second, whole(x, 2), whole(x, 3));
    }

    /** "is a COPY if it has at least 4 bytes". */
    private static void runsOfFourAreCopies() {
        secondIs("runs of 4", "abcd|efgh|ijklmnop", "abcd+efgh+mnop", 132, 0, 1, "+", 132, 5, 1, "+", 132, 14);
        secondIs("runs of 3", "abc|ef|hijklmnopqrstuvw", "abc+ef+hijklmnopqrstuvw", 7, "abc+ef+", 144, 7);
        secondIs("a run of 3 at the end", "abcdefghijklmnop", "abcdefghijkl-nop", 140, 0, 4, "-nop");
        secondIs("a run of 4 at the end", "abcdefghijklmnop", "abcdefghijk-mnop", 139, 0, 1, "-", 132, 12);
        secondIs("one run of 48", "a".repeat(24) + "b".repeat(24), "a".repeat(24) + "b".repeat(23), 128 + 47, 0);
    }

    /** The last of three commits has the second as both parents, another tree, and the number of the first. */
    private static void lastCommitIs(String blob, Object... delta) {
        ObjectDepot x = new ObjectDepot();
        Bytes.blob(x, blob);
        x.entry(0, 0);
        x.tree();
        x.tree();
        x.move(0, -1, x.commit(2, -1, -1, 999));
        x.commit(2, -1, -1, 5);
        x.move(1, -1, x.commit(1, 4, 4, 999));
        Check.same(blob + ": members", x.pack(5), 6);
        String target = Model.text(Bytes.contentOf(x, 5));
        int place = 0;
        for (int i = 0; i < delta.length; i += 2) {
            int n = (Integer) delta[i];
            if (n > 128) {
                place += n - 128;
            } else {
                delta[i + 1] = target.substring(place, place + n);
                place += n;
            }
        }
        byte[] wire = Bytes.wireOf(x);
        byte[] due = back(x, 5, 2, delta);
        byte[] got = new byte[due.length];
        System.arraycopy(wire, wire.length - 4 - due.length, got, 0, due.length);
        Check.yes(blob + ": its delta", Bytes.same(got, due));
    }

    /**
     * "one is opened if none is, or the open one has 127 bytes". These blobs were sought: the NAMEs of their
     * trees have four digits in a row in common with that of the empty tree, at just the right places.
     */
    private static void insertsOf127() {
        lastCommitIs("blob 719", 133, 0, 6, "", 132, 11, 126, "", 134, 45);
        lastCommitIs("blob 19503", 133, 0, 5, "", 132, 10, 127, "", 134, 45);
        lastCommitIs("blob 3890", 133, 0, 4, "", 132, 16, 127, "", 1, "", 134, 45);
    }

    /** "the longest run (at most 127 ..)": one of 145 is a COPY of 127 and one of the rest. */
    private static void copiesOf127() {
        ObjectDepot x = new ObjectDepot();
        x.tree();
        x.commit(0, -1, -1, 0);
        x.move(0, -1, x.commit(0, 1, 1, 998));
        x.move(1, -1, x.commit(0, 1, 1, 999));
        Check.same("a run of 145: members", x.pack(5), 4);
        byte[] due = back(x, 3, 1, 255, 0, 128 + 18, 127, 2, "9\n");
        byte[] wire = Bytes.wireOf(x);
        for (int i = 0; i < due.length; i++) {
            Check.same("a run of 145: byte " + i, wire[wire.length - 4 - due.length + i], due[i]);
        }
    }

    /** "of several the one at the least place of the base". */
    private static void leastPlaceOfLongestRuns() {
        secondIs("the same run three times", "vwxyz.vwxyz.vwxyz", "[[vwxyz]]vwxyz", 2, "[[", 133, 0, 2, "]]", 133, 0);
        secondIs("a longer one behind", "wxyz.wxyz!wxyz", "--wxyz!--------wxyz!", 2, "--", 133, 5, 8, "--------", 133, 5);
        secondIs("runs over one another", "aaaaaaaa", "aaaaaaaaaaaaaaaaaaaa", 136, 0, 136, 0, 132, 0);
    }

    /** "An empty target has an empty delta": a member of 4 bytes, and whole it has 2. */
    private static void emptyContents() {
        secondIs("an empty target", "abcdefgh", "");
        secondIs("an empty base", "", "abcdefgh");
    }

    /** "unless it has a delta that makes its member shorter". */
    private static void deltaIsShorter() {
        secondIs("6 bytes for 6", "abcdefgh", "abcd");
        secondIs("6 bytes for 7", "abcdefgh", "abcde", 133, 0);
        secondIs("9 bytes for 8", "abcdefgh", "abcd..");
        secondIs("9 bytes for 9", "abcdefgh", "abcde..");
        secondIs("9 bytes for 10", "abcdefgh", "abcdef..", 134, 0, 2, "..");
        secondIs("nothing in common", "abcdefgh", "........");
    }

    /** "for each of the three members just before it (as far as there are)". */
    private static void threeMembersBefore() {
        String text = "0123456789ABCDEF";
        for (int between = 0; between <= 2; between++) {
            String[] texts = {text, "one", "two", "six"};
            texts[1 + between] = text + "!";
            ObjectDepot x = held(texts);
            Check.same("members", x.pack(5), 6);
            byte[][] members = new byte[6][];
            for (int k = 0; k < 6; k++) {
                members[k] = k == 1 + between ? back(x, k, 1 + between, 144, 0, 1, "!") : whole(x, k);
            }
            wireIs((1 + between) + " before", x, members);
        }
        ObjectDepot x = new ObjectDepot();
        String[] texts = {text, "one", "two", "six", text + "!"};
        for (int i = 0; i < 5; i++) {
            Bytes.blob(x, texts[i]);
        }
        for (int i = 0; i < 3; i++) {
            x.entry(i, i);
        }
        int tree = x.tree();
        x.entry(3, 3);
        x.entry(4, 4);
        x.entry(5, tree);
        x.move(0, -1, x.commit(x.tree(), -1, -1, 1));
        Check.same("members", x.pack(5), 8);
        byte[] due = Bytes.of(80, 8, whole(x, 0), whole(x, 1), whole(x, 2), whole(x, 3), whole(x, 4));
        for (int i = 0; i < due.length; i++) {
            Check.same("4 before: byte " + i, x.wire(i), due[i]);
        }
    }

    /** Nine blobs, each as like to all others as to any, in three trees, with a commit. */
    private static ObjectDepot nineBlobs() {
        ObjectDepot x = new ObjectDepot();
        for (int i = 0; i < 9; i++) {
            Bytes.blob(x, "0123456789ABCDEFGHIJ" + i);
        }
        for (int i = 0; i < 8; i++) {
            x.entry(i % 4, i);
            if (i % 4 == 3) {
                x.tree();
            }
        }
        x.entry(0, 8);
        x.entry(1, 9);
        x.entry(2, 10);
        x.move(0, -1, x.commit(x.tree(), -1, -1, 1));
        return x;
    }

    /** "if .. its own CHAIN is below DEPTH"; "its CHAIN is 1 more than that of its base; otherwise .. a CHAIN of 0". */
    private static void chainIsBelowDepth() {
        // Of each blob how many members back its base is, by hand: 0 if it stands whole.
        String[] bases = {"000000000", "012301230", "011230112", "011123011", "011112301", "011111230"};
        ObjectDepot x = nineBlobs();
        for (int depth = 0; depth <= 5; depth++) {
            Check.same("depth " + depth, x.pack(depth), 13);
            byte[] due = Bytes.of(80, 13);
            for (int k = 0; k < 9; k++) {
                int d = bases[depth].charAt(k) - '0';
                due = Bytes.of(due, d == 0 ? whole(x, k) : back(x, k, d, 148, 0, 1, "" + k));
            }
            for (int i = 0; i < due.length; i++) {
                Check.same("depth " + depth + ": byte " + i, x.wire(i), due[i] & 255);
            }
        }
    }

    private static void thirdIs(String what, String[] texts, int d, Object... delta) {
        ObjectDepot x = held(texts);
        Check.same(what, x.pack(5), 5);
        byte[] due = back(x, 2, d, delta);
        int at = 2;
        for (int k = 0; k < 2; k++) {
            at += x.wire(at) == 4 ? 4 + x.wire(at + 3) : 2 + x.wire(at + 1);
        }
        for (int i = 0; i < due.length; i++) {
            Check.same(what + ": byte " + i, x.wire(at + i), due[i] & 255);
        }
    }

    /** "the shortest one .. counts". */
    private static void shortestDelta() {
        String target = "0123456789ABCDEF";
        thirdIs("the far one by one byte", new String[] {"123456789ABCDEF", "__23456789ABCDEF", target}, 2,
            1, "0", 143, 0);
        thirdIs("the near one by one byte", new String[] {"__23456789ABCDEF", "123456789ABCDEF", target}, 1,
            1, "0", 143, 0);
    }

    /** "(of several the one from the nearest member)". */
    private static void nearestOfSeveral() {
        String target = "0123456789ABCDEF";
        thirdIs("both as short", new String[] {"____123456789ABC", "DEF.123456789ABC", target}, 1,
            1, "0", 140, 4, 3, "DEF");
    }

    /** "if that is of the same kind". */
    private static void sameKind() {
        // The blob holds the bytes of the tree that stands just behind it.
        ObjectDepot x = new ObjectDepot();
        Bytes.blob(x, "b");
        byte[] tree = Bytes.entry(Bytes.BLOB, 'a', Bytes.nameOf(x, 0));
        Bytes.blob(x, Model.text(tree));
        x.entry(0, 0);
        Check.same("the tree", x.tree(), 2);
        x.entry(0, 1);
        x.entry(1, 2);
        x.move(0, -1, x.commit(x.tree(), -1, -1, 1));
        Check.same("members", x.pack(5), 5);
        byte[] due = Bytes.of(80, 5, whole(x, 0), whole(x, 1), whole(x, 2));
        for (int i = 0; i < due.length; i++) {
            Check.same("a tree behind a blob: byte " + i, x.wire(i), due[i] & 255);
        }
    }
}
