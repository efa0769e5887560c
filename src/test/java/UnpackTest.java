import java.util.Arrays;

/** Promise 17: packs are taken in, or refused for the first reason there is. */
public final class UnpackTest {
    private static final int FULL = ObjectDepot.FULL;
    private static final int BROKEN = ObjectDepot.BROKEN;
    private static final int LACKING = ObjectDepot.LACKING;
    private static final int COMMIT = Bytes.COMMIT;
    private static final int TREE = Bytes.TREE;
    private static final int BLOB = Bytes.BLOB;

    private static final byte[] HELLO = Bytes.of("hello, depot");
    private static final byte[] HELLO_NAME = Bytes.name(BLOB, HELLO);
    private static final byte[] NO_TREE = Bytes.name(TREE, new byte[0]);
    private static final byte[] EMPTY_TREE = Bytes.whole(TREE, new byte[0]);
    private static final byte[] FIRST = Bytes.commit(1, NO_TREE);
    private static final byte[] FIRST_NAME = Bytes.name(COMMIT, FIRST);

    public static void main(String[] args) {
        ownPacksComeBack();
        membersAreStoredInOrder();
        membersMayNameLaterOnes();
        twiceCountsOnce();
        headsAreRead();
        cutOrLongerIsBroken();
        cutAtTheGreatestLength();
        everyAlteredByteIsSeen();
        onlyFiveForms();
        blobContents();
        treeContents();
        commitContents();
        deltasFromMembers();
        deltasFromNamed();
        deltaKinds();
        brokenDeltas();
        partsOf127();
        lackingNames();
        lackingKinds();
        fullStores();
        firstReasonCounts();
        Check.end();
    }

    /** Taken in by a new object, and by one that holds nothing any more, but has taken in packs. */
    private static void wireDue(String what, int due, byte[] wire) {
        ObjectDepot used = new ObjectDepot();
        Bytes.takeIn(used, mixedPack());
        Check.same("cleaned", used.clean(), 6);
        for (ObjectDepot x : new ObjectDepot[] {new ObjectDepot(), used}) {
            Check.same(what, Bytes.takeIn(x, wire), due);
            Check.yes(what + ": the wire stays", Bytes.same(Bytes.wireOf(x), wire));
            Check.same(what + ": objects", Bytes.count(x), Math.max(0, due));
        }
    }

    private static void due(String what, int due, byte[]... members) {
        wireDue(what, due, Bytes.pack(members));
    }

    private static byte[] mixedPack() {
        return Bytes.pack(Bytes.whole(BLOB, HELLO), Bytes.deltaBack(14, 1, Bytes.of(140, 0, 2, "!!")),
            Bytes.deltaNamed(5, HELLO_NAME, Bytes.of(133, 0)), Bytes.whole(TREE, Bytes.entry(BLOB, 'q', HELLO_NAME)),
            EMPTY_TREE, Bytes.whole(COMMIT, FIRST));
    }

    private static void ownPacksComeBack() {
        for (int depth = 0; depth <= 5; depth++) {
            ObjectDepot x = new ObjectDepot();
            Bytes.blob(x, "a text that is long enough");
            Bytes.blob(x, "a text that is long enough, and more");
            x.entry(0, 0);
            x.entry(1, 1);
            x.tree();
            x.commit(2, -1, -1, 7);
            x.commit(2, 3, 3, 8);
            x.move(0, -1, 4);
            Check.same("pack", x.pack(depth), 5);
            Check.same("all are there", x.unpack(), 0);
            ObjectDepot y = new ObjectDepot();
            Check.same("all are new", Bytes.takeIn(y, Bytes.wireOf(x)), 5);
            Check.same("the second time none", y.unpack(), 0);
            for (int k = 0; k < 5; k++) {
                Check.yes("the same content", Bytes.same(Bytes.contentOf(x, k), Bytes.contentOf(y, k)));
                Check.yes("the same name", Bytes.same(Bytes.nameOf(x, k), Bytes.nameOf(y, k)));
                Check.same("the same reach", y.object(k, 7), x.object(k, 7));
            }
            Check.same("references do not come along", y.reference(0), ObjectDepot.NONE);
            Check.same("so all can be cleaned", y.clean(), 5);
        }
    }

    private static void membersAreStoredInOrder() {
        ObjectDepot x = new ObjectDepot();
        Bytes.blob(x, "lost");
        x.tree();
        Bytes.blob(x, "lost, too");
        x.move(0, -1, x.commit(1, -1, -1, 1));
        x.clean();
        Check.same("three, one of them known", Bytes.takeIn(x, Bytes.pack(
            Bytes.whole(BLOB, Bytes.of("one")), EMPTY_TREE, Bytes.whole(BLOB, Bytes.of("two")),
            Bytes.whole(BLOB, Bytes.of("three")))), 3);
        Check.yes("the first at the least free number", Bytes.same(Bytes.contentOf(x, 0), Bytes.of("one")));
        Check.same("the known one stays", x.object(1, 0), TREE);
        Check.yes("the next one at the next", Bytes.same(Bytes.contentOf(x, 2), Bytes.of("two")));
        Check.yes("the last one behind all", Bytes.same(Bytes.contentOf(x, 4), Bytes.of("three")));
        Check.same("not reached", x.clean(), 3);
    }

    private static void membersMayNameLaterOnes() {
        byte[] tree = Bytes.entry(BLOB, 'x', HELLO_NAME);
        byte[] commit = Bytes.commit(3, Bytes.name(TREE, tree), FIRST_NAME);
        ObjectDepot x = new ObjectDepot();
        Check.same("all turned round", Bytes.takeIn(x, Bytes.pack(Bytes.whole(COMMIT, commit),
            Bytes.whole(COMMIT, FIRST), Bytes.whole(TREE, tree), EMPTY_TREE, Bytes.whole(BLOB, HELLO))), 5);
        Check.same("the commit is first", x.object(0, 0), COMMIT);
        Check.same("it reaches all", x.object(0, 7), 5);
        Check.yes("over its tree", x.reaches(2, 4));
        Check.no("its parent does not reach the blob", x.reaches(1, 4));
        Check.yes("it can be held", x.move(0, -1, 0));
        Check.same("nothing to clean", x.clean(), 0);
    }

    private static void twiceCountsOnce() {
        due("twice whole", 1, Bytes.whole(BLOB, HELLO), Bytes.whole(BLOB, HELLO));
        due("twice, once as a delta", 1, Bytes.whole(BLOB, HELLO), Bytes.deltaBack(12, 1, Bytes.of(140, 0)));
        ObjectDepot x = new ObjectDepot();
        x.blob();
        Check.same("known ones do not count", Bytes.takeIn(x, Bytes.pack(Bytes.whole(BLOB, new byte[0]),
            Bytes.whole(BLOB, HELLO), Bytes.whole(BLOB, HELLO), EMPTY_TREE)), 2);
    }

    private static void headsAreRead() {
        byte[] member = Bytes.whole(BLOB, HELLO);
        wireDue("one", 1, Bytes.withSum(Bytes.of(80, 1, member)));
        wireDue("no wire", BROKEN, new byte[0]);
        wireDue("not 80", BROKEN, Bytes.withSum(Bytes.of(81, 1, member)));
        wireDue("no members", BROKEN, Bytes.withSum(Bytes.of(80, 0)));
        wireDue("0 members and one", BROKEN, Bytes.withSum(Bytes.of(80, 0, member)));
        wireDue("too few members", BROKEN, Bytes.withSum(Bytes.of(80, 2, member)));
        wireDue("too many members", BROKEN, Bytes.withSum(Bytes.of(80, 1, member, member)));
        byte[][] many = new byte[25][];
        for (int i = 0; i < 25; i++) {
            many[i] = Bytes.whole(BLOB, Bytes.of(i));
        }
        wireDue("24 members", 24, Bytes.pack(Arrays.copyOf(many, 24)));
        wireDue("25 members", BROKEN, Bytes.pack(many));
        Arrays.fill(many, many[0]);
        wireDue("25 times the same", BROKEN, Bytes.pack(many));
        wireDue("24 times the same", 1, Bytes.pack(Arrays.copyOf(many, 24)));
    }

    private static void cutOrLongerIsBroken() {
        byte[] pack = mixedPack();
        wireDue("uncut", 6, pack);
        for (int n = 0; n < pack.length; n++) {
            wireDue("cut to " + n, BROKEN, Arrays.copyOf(pack, n));
            if (n != pack.length - 4) {
                wireDue("cut to " + n + " with a sum", BROKEN, Bytes.withSum(Arrays.copyOf(pack, n)));
            }
        }
        wireDue("a byte more", BROKEN, Bytes.of(pack, 0));
        wireDue("a byte more under the sum", BROKEN, Bytes.withSum(Arrays.copyOf(pack, pack.length - 3)));
        wireDue("twice", BROKEN, Bytes.of(pack, pack));
    }

    /** The cut member ends where the wire can hold no more. */
    private static void cutAtTheGreatestLength() {
        byte[][] cut = {Bytes.of(BLOB), Bytes.of(BLOB, 9), Bytes.of(BLOB, 9, "abc"), Bytes.of(4), Bytes.of(4, 9),
            Bytes.of(4, 9, 1), Bytes.of(4, 9, 1, 3), Bytes.of(4, 9, 1, 3, 137), Bytes.of(5), Bytes.of(5, 9),
            Bytes.of(5, 9, Arrays.copyOf(HELLO_NAME, 19)), Bytes.of(5, 9, HELLO_NAME),
            Bytes.of(5, 9, HELLO_NAME, 2, 137), Bytes.of(5, 9, HELLO_NAME, 2, 5)};
        for (byte[] last : cut) {
            byte[] wire = Bytes.of(80, 24, Bytes.whole(BLOB, HELLO));
            while (wire.length + last.length < 600) {
                int n = Math.min(50, 600 - wire.length - last.length);
                n = 600 - wire.length - last.length - n == 1 ? n - 1 : n;
                wire = Bytes.of(wire, Bytes.whole(BLOB, new byte[n - 2]));
            }
            wire = Bytes.of(wire, last);
            Check.same("a full wire", wire.length, 600);
            wireDue("a full wire with its last member cut", BROKEN, wire);
        }
    }

    private static void everyAlteredByteIsSeen() {
        byte[] pack = mixedPack();
        for (int i = 0; i < pack.length; i++) {
            for (int bit = 0; bit < 8; bit++) {
                byte[] other = pack.clone();
                other[i] ^= (byte) (1 << bit);
                wireDue("byte " + i + " altered", BROKEN, other);
            }
        }
    }

    private static void onlyFiveForms() {
        for (int form = 0; form < 256; form++) {
            if (form < 1 || form > 5) {
                due("a member of form " + form, BROKEN, Bytes.of(form, 0, 0, 0), EMPTY_TREE);
                due("a short member of form " + form, BROKEN, Bytes.of(form, 0), EMPTY_TREE);
            }
        }
    }

    private static void blobContents() {
        due("empty", 1, Bytes.whole(BLOB, new byte[0]));
        due("48", 1, Bytes.whole(BLOB, new byte[48]));
        due("49", BROKEN, Bytes.whole(BLOB, new byte[49]));
        due("147", BROKEN, Bytes.whole(BLOB, new byte[147]));
        due("255", BROKEN, Bytes.whole(BLOB, new byte[255]));
        due("said longer than it is", BROKEN, Bytes.of(BLOB, 3, "ab"));
        due("said longer than the wire", BROKEN, Bytes.of(BLOB, 200, "ab"));
        due("said shorter than it is", BROKEN, Bytes.of(BLOB, 1, "ab"));
        due("said longer than the wire, with members in it", BROKEN, Bytes.of(BLOB, 200), EMPTY_TREE);
        due("said as long as the member behind it", BROKEN, Bytes.of(BLOB, 2), EMPTY_TREE);
    }

    private static void treeDue(String what, int due, Object... parts) {
        due(what, due, Bytes.whole(BLOB, HELLO), EMPTY_TREE, Bytes.whole(TREE, Bytes.of(parts)));
    }

    private static void treeContents() {
        byte[] n = HELLO_NAME;
        treeDue("a", 3, "100644 a", 0, n);
        treeDue("z", 3, "100644 z", 0, n);
        treeDue("a tree", 3, "40000 m", 0, NO_TREE);
        treeDue("four", 3, "100644 a", 0, n, "40000 b", 0, NO_TREE, "100644 c", 0, n, "100644 z", 0, n);
        treeDue("five", BROKEN, "100644 a", 0, n, "100644 b", 0, n, "100644 c", 0, n, "100644 d", 0, n, "100644 e", 0, n);
        treeDue("a letter twice", BROKEN, "100644 a", 0, n, "100644 a", 0, n);
        treeDue("letters turned round", BROKEN, "100644 b", 0, n, "100644 a", 0, n);
        for (String letter : new String[] {"`", "{", "A", "Z", "0", " ", "\0", "\u00e1"}) {
            treeDue("letter " + letter, BROKEN, "100644 " + letter, 0, n);
            treeDue("letter " + letter + " second", BROKEN, "100644 a", 0, n, "100644 " + letter, 0, n);
        }
        for (String mode : new String[] {"100645 ", "100755 ", "040000 ", "40001 ", "4000 ", "10064 ", "100644", "40000", "100644  ", " ", ""}) {
            treeDue("mode " + mode, BROKEN, mode + "a", 0, n);
        }
        treeDue("no 0 byte", BROKEN, "100644 a", n);
        treeDue("1 for the 0 byte", BROKEN, "100644 a", 1, n);
        treeDue("two letters", BROKEN, "100644 aa", 0, n);
        treeDue("a name too short", BROKEN, "100644 a", 0, Arrays.copyOf(n, 19));
        treeDue("a name too long", BROKEN, "100644 a", 0, n, 0);
        treeDue("no name", BROKEN, "100644 a", 0);
        treeDue("a mode alone", BROKEN, "100644 ");
        treeDue("a text", BROKEN, "hello");
    }

    private static void commitDue(String what, int due, String text) {
        due(what, due, EMPTY_TREE, Bytes.whole(COMMIT, FIRST), Bytes.whole(COMMIT, Bytes.of(text)));
    }

    private static void commitContents() {
        String t = "tree " + Bytes.hex(NO_TREE) + "\n";
        String p = "parent " + Bytes.hex(FIRST_NAME) + "\n";
        for (String number : new String[] {"0", "2", "9", "10", "42", "99", "100", "999"}) {
            commitDue("number " + number, 3, t + p + "\n" + number + "\n");
        }
        commitDue("no parent", 3, t + "\n5\n");
        commitDue("two parents", 3, t + p + p + "\n999\n");
        commitDue("three parents", BROKEN, t + p + p + p + "\n5\n");
        for (String number : new String[] {"", "00", "01", "000", "012", "1000", "0000", "-1", "+1", "1 ", " 1", "a", "1a", "/", ":"}) {
            commitDue("number " + number, BROKEN, t + "\n" + number + "\n");
        }
        commitDue("no end", BROKEN, t + "\n5");
        commitDue("more behind", BROKEN, t + "\n5\n\n");
        commitDue("a second number", BROKEN, t + "\n5\n6\n");
        commitDue("no empty line", BROKEN, t + "5\n");
        commitDue("no empty line behind a parent", BROKEN, t + p + "5\n");
        commitDue("an empty line too many", BROKEN, t + "\n\n5\n");
        commitDue("no tree", BROKEN, "\n5\n");
        commitDue("two trees", BROKEN, t + t + "\n5\n");
        commitDue("the parent first", BROKEN, p + t + "\n5\n");
        commitDue("nothing", BROKEN, "");
        for (String digit : new String[] {"A", "F", "g", "`", "/", ":", " ", "\n"}) {
            commitDue("digit " + digit + " in the tree", BROKEN, t.substring(0, 44) + digit + "\n\n5\n");
            commitDue("digit " + digit + " in a parent", BROKEN, t + "parent " + digit + p.substring(8) + "\n5\n");
        }
        commitDue("no digits", BROKEN, "tree \n\n5\n");
        commitDue("no digits in a parent", BROKEN, t + "parent \n\n5\n");
        commitDue("39 digits", BROKEN, t.substring(0, 44) + "\n\n5\n");
        commitDue("41 digits", BROKEN, t.substring(0, 45) + "0\n\n5\n");
        commitDue("words otherwise", BROKEN, "Tree" + t.substring(4) + "\n5\n");
        commitDue("no blank", BROKEN, "tree" + t.substring(5) + "\n5\n");
        commitDue("no newline", BROKEN, t.substring(0, 45) + " \n5\n");
        commitDue("parents otherwise", BROKEN, t + "Parent" + p.substring(6) + "\n5\n");
    }

    private static void blobIs(String what, ObjectDepot x, int k, String text) {
        Check.same(what + ": kind", x.object(k, 0), BLOB);
        Check.yes(what + ": content", Bytes.same(Bytes.contentOf(x, k), Bytes.of(text)));
        Check.yes(what + ": name", Bytes.same(Bytes.nameOf(x, k), Bytes.name(BLOB, Bytes.of(text))));
    }

    private static void deltasFromMembers() {
        ObjectDepot x = new ObjectDepot();
        byte[] base = Bytes.whole(BLOB, HELLO);
        Check.same("deltas", Bytes.takeIn(x, Bytes.pack(base,
            Bytes.deltaBack(6, 1, Bytes.of(129, 11, 2, "=\0", 131, 0)),
            Bytes.deltaBack(6, 1, Bytes.of(134, 0)),
            Bytes.deltaBack(7, 3, Bytes.of(133, 7, 2, "..")),
            Bytes.deltaBack(12, 3, Bytes.of(134, 0, 134, 0)))), 4);
        blobIs("from the one before", x, 1, "t=\0hel");
        blobIs("from three before", x, 2, "depot..");
        blobIs("from a delta", x, 3, "t=\0helt=\0hel");
        due("0 members back", BROKEN, base, Bytes.deltaBack(5, 0, Bytes.of(133, 0)));
        due("0 members back without a copy", BROKEN, base, Bytes.deltaBack(1, 0, Bytes.of(1, "x")));
        due("before the first", BROKEN, base, Bytes.deltaBack(5, 2, Bytes.of(133, 0)));
        due("far before the first", BROKEN, base, Bytes.deltaBack(5, 255, Bytes.of(133, 0)));
        due("before the first, without parts", BROKEN, base, Bytes.deltaBack(0, 2, new byte[0]));
        due("before the first, without parts", BROKEN, base, Bytes.deltaBack(14, 2, new byte[0]));
        due("the first one", BROKEN, Bytes.deltaBack(5, 1, Bytes.of(133, 0)), base);
        due("the first one without a copy", BROKEN, Bytes.deltaBack(1, 1, Bytes.of(1, "x")), base);
        due("an empty one", 2, base, Bytes.deltaBack(0, 1, new byte[0]));
    }

    private static void deltasFromNamed() {
        byte[] delta = Bytes.deltaNamed(7, HELLO_NAME, Bytes.of(133, 7, 2, "??"));
        ObjectDepot x = new ObjectDepot();
        Check.same("no base", Bytes.takeIn(x, Bytes.pack(delta)), BROKEN);
        Bytes.blob(x, "hello, depot");
        Check.same("from the store", x.unpack(), 1);
        blobIs("from the store", x, 1, "depot??");
        ObjectDepot y = new ObjectDepot();
        Check.same("from a member before it", Bytes.takeIn(y, Bytes.pack(Bytes.whole(BLOB, HELLO), delta)), 2);
        blobIs("from a member before it", y, 1, "depot??");
        due("from a member behind it", BROKEN, delta, Bytes.whole(BLOB, HELLO));
        due("from none, without parts", BROKEN, Bytes.deltaNamed(0, HELLO_NAME, new byte[0]));
        due("from none, without parts", BROKEN, Bytes.deltaNamed(12, HELLO_NAME, new byte[0]));
        due("from itself", BROKEN, Bytes.deltaNamed(12, HELLO_NAME, Bytes.of(12, HELLO)));
        byte[] chained = Bytes.name(BLOB, Bytes.of("depot??"));
        due("from a delta", 3, Bytes.whole(BLOB, HELLO), delta, Bytes.deltaNamed(4, chained, Bytes.of(132, 3)));
        x.clean();
        Check.same("the base is gone again", x.unpack(), BROKEN);
    }

    private static void deltaKinds() {
        byte[] tree = Bytes.entry(BLOB, 'b', HELLO_NAME);
        byte[] wider = Bytes.of(tree, Bytes.entry(BLOB, 'c', HELLO_NAME));
        byte[] second = Bytes.commit(2, NO_TREE);
        byte[] hello = Bytes.whole(BLOB, HELLO);
        ObjectDepot x = new ObjectDepot();
        Check.same("trees and commits", Bytes.takeIn(x, Bytes.pack(hello, Bytes.whole(TREE, tree),
            Bytes.deltaBack(58, 1, Bytes.of(157, 0, 135, 0, 1, "c", 149, 8)), EMPTY_TREE, Bytes.whole(COMMIT, FIRST),
            Bytes.deltaNamed(49, FIRST_NAME, Bytes.of(175, 0, 2, "2\n")))), 6);
        Check.same("a delta from a tree is one", x.object(2, 0), TREE);
        Check.yes("its content", Bytes.same(Bytes.contentOf(x, 2), wider));
        Check.same("what it reaches", x.object(2, 7), 2);
        Check.same("a delta from a commit is one", x.object(5, 0), COMMIT);
        Check.yes("its content", Bytes.same(Bytes.contentOf(x, 5), second));
        Check.same("what it reaches", x.object(5, 7), 2);
        due("an empty tree from a tree", 3, hello, Bytes.whole(TREE, tree), Bytes.deltaBack(0, 1, new byte[0]));
        due("an empty commit", BROKEN, EMPTY_TREE, Bytes.whole(COMMIT, FIRST), Bytes.deltaBack(0, 1, new byte[0]));
        due("a text from a tree", BROKEN, EMPTY_TREE, Bytes.deltaBack(5, 1, Bytes.of(5, "hello")));
        due("a tree's text from a blob", 2, hello, Bytes.deltaBack(29, 1, Bytes.of(29, tree)));
        due("a blob of 49", BROKEN, hello, Bytes.deltaBack(49, 1, Bytes.of(49, new byte[49])));
        due("a blob of 48", 2, hello, Bytes.deltaBack(48, 1, Bytes.of(48, new byte[48])));
    }

    private static void deltaDue(String what, int due, int length, Object... delta) {
        byte[] hello = Bytes.whole(BLOB, HELLO);
        due(what, due, hello, Bytes.deltaBack(length, 1, Bytes.of(delta)));
        due(what + ", named", due, hello, Bytes.deltaNamed(length, HELLO_NAME, Bytes.of(delta)));
    }

    private static void brokenDeltas() {
        deltaDue("insert", 2, 1, 1, "x");
        deltaDue("a copy up to the end", 2, 5, 133, 7);
        deltaDue("a copy over the end", BROKEN, 6, 134, 7);
        deltaDue("a copy from the end", BROKEN, 1, 129, 12);
        deltaDue("a copy from behind the end", BROKEN, 1, 129, 255);
        deltaDue("an insert of 0", BROKEN, 0, 0);
        deltaDue("an insert of 0 and more", BROKEN, 1, 0, 1, "x");
        deltaDue("a copy of 0", BROKEN, 0, 128, 0);
        deltaDue("a copy of 0 and more", BROKEN, 1, 128, 0, 1, "x");
        deltaDue("an insert that is cut", BROKEN, 2, 3, "xy");
        deltaDue("an insert without bytes", BROKEN, 0, 3);
        deltaDue("a copy that is cut", BROKEN, 5, 133);
        deltaDue("a copy over the end behind all bytes", BROKEN, 2, 2, "xy", 129, 12);
        deltaDue("an insert of 0 behind all bytes", BROKEN, 2, 2, "xy", 0);
        deltaDue("a copy of 0 behind all bytes", BROKEN, 2, 2, "xy", 128, 0);
        deltaDue("a cut insert behind all bytes", BROKEN, 2, 2, "xy", 5, "z");
        deltaDue("a cut copy behind all bytes", BROKEN, 2, 2, "xy", 133);
        deltaDue("fewer bytes than said", BROKEN, 3, 2, "xy");
        deltaDue("more bytes than said", BROKEN, 1, 2, "xy");
        deltaDue("no bytes, but one said", BROKEN, 1);
        deltaDue("many bytes more than said", BROKEN, 12, 140, 0, 140, 0, 140, 0, 140, 0, 140, 0, 140, 0, 140, 0,
            140, 0, 140, 0, 140, 0, 140, 0, 140, 0, 140, 0);
        // 22 times 12 bytes are 264, which is 8 if only the lowest byte is looked at.
        Object[] copies = new Object[44];
        for (int i = 0; i < 44; i++) {
            copies[i] = i % 2 == 0 ? 140 : 0;
        }
        deltaDue("256 bytes more than said", BROKEN, 8, copies);
        byte[] hello = Bytes.whole(BLOB, HELLO);
        // The insert would take its last bytes from behind the delta.
        due("an insert over the delta's end", BROKEN, hello, Bytes.of(4, 3, 1, 2, 3, "x"), EMPTY_TREE);
        due("a copy over the delta's end", BROKEN, hello, Bytes.of(4, 5, 1, 1, 133), EMPTY_TREE);
        due("a delta over the wire's end", BROKEN, hello, Bytes.of(4, 1, 1, 200, 1, "x"));
    }

    private static void partsOf127() {
        byte[] two = Bytes.commit(100, NO_TREE, FIRST_NAME, FIRST_NAME);
        byte[] other = Bytes.commit(200, NO_TREE, FIRST_NAME, FIRST_NAME);
        byte[] base = Bytes.whole(COMMIT, FIRST);
        due("insert of 127", 3, EMPTY_TREE, base, Bytes.deltaBack(147, 1,
            Bytes.of(127, Arrays.copyOf(two, 127), 20, Arrays.copyOfRange(two, 127, 147))));
        due("copy of 127", 4, EMPTY_TREE, base, Bytes.whole(COMMIT, two), Bytes.deltaBack(147, 1,
            Bytes.of(255, 0, 144, 127, 4, Arrays.copyOfRange(other, 143, 147))));
    }

    private static void lackingNames() {
        byte[] nothing = new byte[20];
        due("a blob that is not there", LACKING, Bytes.whole(TREE, Bytes.entry(BLOB, 'a', HELLO_NAME)));
        due("the second of two", LACKING, Bytes.whole(BLOB, HELLO),
            Bytes.whole(TREE, Bytes.of(Bytes.entry(BLOB, 'a', HELLO_NAME), Bytes.entry(BLOB, 'b', nothing))));
        due("the first of two", LACKING, Bytes.whole(BLOB, HELLO),
            Bytes.whole(TREE, Bytes.of(Bytes.entry(BLOB, 'a', nothing), Bytes.entry(BLOB, 'b', HELLO_NAME))));
        due("a tree that is not there", LACKING, Bytes.whole(TREE, Bytes.entry(TREE, 'a', NO_TREE)));
        due("a commit's tree", LACKING, Bytes.whole(COMMIT, FIRST));
        due("a commit's parent", LACKING, EMPTY_TREE, Bytes.whole(COMMIT, Bytes.commit(2, NO_TREE, FIRST_NAME)));
        due("a commit's second parent", LACKING, EMPTY_TREE, Bytes.whole(COMMIT, FIRST),
            Bytes.whole(COMMIT, Bytes.commit(2, NO_TREE, FIRST_NAME, nothing)));
        ObjectDepot x = new ObjectDepot();
        Check.same("not in the store", Bytes.takeIn(x, Bytes.pack(Bytes.whole(COMMIT, FIRST))), LACKING);
        x.tree();
        Check.same("in the store", x.unpack(), 1);
        Check.yes("it is linked", x.reaches(1, 0));
        x.clean();
        Check.same("in the store no more", x.unpack(), LACKING);
        Check.same("nothing is stored", Bytes.count(x), 0);
    }

    private static void lackingKinds() {
        byte[] hello = Bytes.whole(BLOB, HELLO);
        byte[] first = Bytes.whole(COMMIT, FIRST);
        byte[][] wrong = {
            Bytes.whole(TREE, Bytes.entry(BLOB, 'a', NO_TREE)),
            Bytes.whole(TREE, Bytes.entry(BLOB, 'a', FIRST_NAME)),
            Bytes.whole(TREE, Bytes.entry(TREE, 'a', HELLO_NAME)),
            Bytes.whole(TREE, Bytes.entry(TREE, 'a', FIRST_NAME)),
            Bytes.whole(TREE, Bytes.of(Bytes.entry(BLOB, 'a', HELLO_NAME), Bytes.entry(TREE, 'b', HELLO_NAME))),
            Bytes.whole(COMMIT, Bytes.commit(5, HELLO_NAME)),
            Bytes.whole(COMMIT, Bytes.commit(5, FIRST_NAME)),
            Bytes.whole(COMMIT, Bytes.commit(5, NO_TREE, HELLO_NAME)),
            Bytes.whole(COMMIT, Bytes.commit(5, NO_TREE, NO_TREE)),
            Bytes.whole(COMMIT, Bytes.commit(5, NO_TREE, FIRST_NAME, NO_TREE))};
        for (int i = 0; i < wrong.length; i++) {
            due("wrong kind of a member " + i, LACKING, hello, EMPTY_TREE, first, wrong[i]);
            ObjectDepot x = new ObjectDepot();
            Bytes.takeIn(x, Bytes.pack(hello, EMPTY_TREE, first));
            Check.same("wrong kind in the store " + i, Bytes.takeIn(x, Bytes.pack(wrong[i])), LACKING);
            Check.same("the store stays " + i, Bytes.count(x), 3);
        }
    }

    private static ObjectDepot holding(int count) {
        ObjectDepot x = new ObjectDepot();
        for (int i = 0; i < count; i++) {
            Bytes.blob(x, "held " + i);
        }
        return x;
    }

    private static void fullStores() {
        byte[] one = Bytes.whole(BLOB, Bytes.of("one"));
        byte[] two = Bytes.whole(BLOB, Bytes.of("two"));
        byte[] known = Bytes.whole(BLOB, Bytes.of("held 5"));
        Check.same("up to 24", Bytes.takeIn(holding(22), Bytes.pack(one, two)), 2);
        ObjectDepot x = holding(23);
        Check.same("a 25th", Bytes.takeIn(x, Bytes.pack(one, two)), FULL);
        Check.same("none is stored", Bytes.count(x), 23);
        Check.same("one and known ones", Bytes.takeIn(x, Bytes.pack(known, one, known, one)), 1);
        Check.same("at the last number", x.object(23, 1), 3);
        Check.same("known ones alone", Bytes.takeIn(x, Bytes.pack(known, one)), 0);
        Check.same("one more", Bytes.takeIn(x, Bytes.pack(two)), FULL);
        x.clean();
        Check.same("room again", x.unpack(), 1);
    }

    private static void firstReasonCounts() {
        byte[] lacking = Bytes.whole(TREE, Bytes.entry(BLOB, 'a', new byte[20]));
        byte[] broken = Bytes.whole(BLOB, new byte[49]);
        byte[] one = Bytes.whole(BLOB, Bytes.of("one"));
        due("lacking, then broken", BROKEN, lacking, broken);
        due("lacking alone", LACKING, lacking, one);
        byte[] wrongSum = Bytes.pack(lacking);
        wrongSum[wrongSum.length - 1]++;
        wireDue("lacking, with a wrong sum", BROKEN, wrongSum);
        ObjectDepot x = holding(24);
        Check.same("full and lacking", Bytes.takeIn(x, Bytes.pack(one, lacking)), LACKING);
        Check.same("full, lacking and broken", Bytes.takeIn(x, Bytes.pack(one, lacking, broken)), BROKEN);
        Check.same("full and broken", Bytes.takeIn(x, Bytes.pack(one, broken)), BROKEN);
        Check.same("full alone", Bytes.takeIn(x, Bytes.pack(one)), FULL);
        Check.same("nothing changed", Bytes.count(x), 24);
    }
}
