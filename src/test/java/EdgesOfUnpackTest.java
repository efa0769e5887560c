import java.util.Arrays;
import java.util.function.Consumer;

/** The edges that the document names in Promise 17, PACK and TAKING IN: a test for each sentence. */
public final class EdgesOfUnpackTest {
    private static final int FULL = ObjectDepot.FULL;
    private static final int BROKEN = ObjectDepot.BROKEN;
    private static final int LACKING = ObjectDepot.LACKING;
    private static final int COMMIT = Bytes.COMMIT;
    private static final int TREE = Bytes.TREE;
    private static final int BLOB = Bytes.BLOB;

    // What Setups.mixed stores.
    private static final byte[] STORED_BLOB = Bytes.name(BLOB, Bytes.of("b"));
    private static final byte[] STORED_TREE_CONTENT = Bytes.entry(BLOB, 'a', STORED_BLOB);
    private static final byte[] STORED_TREE = Bytes.name(TREE, STORED_TREE_CONTENT);
    private static final byte[] STORED_COMMIT_CONTENT = Bytes.commit(1, STORED_TREE);
    private static final byte[] STORED_COMMIT = Bytes.name(COMMIT, STORED_COMMIT_CONTENT);
    private static final byte[] NOWHERE = new byte[20];

    private static final byte[] TEXT = Bytes.of("0123456789");
    private static final byte[] TEXT_NAME = Bytes.name(BLOB, TEXT);
    private static final byte[] MEMBER = Bytes.whole(BLOB, TEXT);

    public static void main(String[] args) {
        firstByteIs80();
        membersAre1To24();
        asManyMembersAsSaid();
        sumIsRight();
        sumOfEachLength();
        nothingBehindTheSum();
        emptyAndShortWires();
        kindsAre1To5();
        wholeHasAsManyBytesAsSaid();
        blobsHaveUpTo48();
        treesHaveUpTo4Entries();
        lettersAscend();
        lettersAreAToZ();
        entriesHaveTheirForm();
        commitsHaveUpTo2Parents();
        commitsHaveTheirForm();
        numbersAre0To999();
        namesHave40Digits();
        baseIsAMemberBefore();
        baseIsNamed();
        deltaHasItsBasesKind();
        deltaHasAsManyBytesAsSaid();
        membersEndWithTheWire();
        deltaGivesAsManyBytesAsSaid();
        copiesEndWithTheBase();
        partsAre1To127();
        partsEndWithTheDelta();
        namesMayBeAnything();
        namedIsMemberOrStored();
        namedHasItsKind();
        upTo24Objects();
        firstReasonCounts();
        storedInTheirOrder();
        newOnesAreCounted();
        wireStays();
        Check.end();
    }

    private static Consumer<ObjectDepot> withWire(int objects, byte[] wire) {
        return x -> {
            takeInAndClean(x);
            Setups.mixed(x, objects);
            Bytes.setWire(x, wire);
        };
    }

    /** An earlier pack of 24 members, which are gone: nothing of them may be taken for a part of a later one. */
    private static void takeInAndClean(ObjectDepot x) {
        byte[][] members = new byte[24][];
        Arrays.fill(members, MEMBER);
        Bytes.takeIn(x, Bytes.pack(members));
        x.clean();
        x.alter(0, -1);
    }

    private static void wireTaken(String what, int fresh, byte[] wire) {
        ObjectDepot x = Edge.taken(what, withWire(Setups.OBJECTS, wire), ObjectDepot::unpack, fresh);
        Check.same(what + ": objects", Bytes.count(x), Setups.OBJECTS + fresh);
        Check.yes(what + ": the wire stays", Bytes.same(Bytes.wireOf(x), wire));
    }

    private static void wireRefused(String what, int due, byte[] wire) {
        Edge.refused(what, withWire(Setups.OBJECTS, wire), ObjectDepot::unpack, due);
    }

    private static void taken(String what, int fresh, byte[]... members) {
        wireTaken(what, fresh, Bytes.pack(members));
    }

    private static void refused(String what, int due, byte[]... members) {
        wireRefused(what, due, Bytes.pack(members));
    }

    /** "A PACK is: 80". */
    private static void firstByteIs80() {
        wireTaken("80", 1, Bytes.withSum(Bytes.of(80, 1, MEMBER)));
        for (int first : new int[] {0, 79, 81, 208, 255}) {
            wireRefused("first byte " + first, BROKEN, Bytes.withSum(Bytes.of(first, 1, MEMBER)));
        }
    }

    private static byte[] members(int count) {
        byte[] all = new byte[0];
        for (int i = 0; i < count; i++) {
            all = Bytes.of(all, Bytes.whole(BLOB, Bytes.of(i)));
        }
        return all;
    }

    /** "the number of its MEMBERS, 1 .. 24". */
    private static void membersAre1To24() {
        wireTaken("1 member", 1, Bytes.withSum(Bytes.of(80, 1, members(1))));
        Edge.taken("24 members", x -> Bytes.setWire(x, Bytes.withSum(Bytes.of(80, 24, members(24)))),
            ObjectDepot::unpack, 24);
        Edge.taken("24 members, one of them twice",
            x -> Bytes.setWire(x, Bytes.withSum(Bytes.of(80, 24, members(1), members(23)))), ObjectDepot::unpack, 23);
        wireRefused("0 members", BROKEN, Bytes.withSum(Bytes.of(80, 0)));
        Edge.refused("25 members", x -> Bytes.setWire(x, Bytes.withSum(Bytes.of(80, 25, members(25)))),
            ObjectDepot::unpack, BROKEN);
        Edge.refused("25 members, one of them twice",
            x -> Bytes.setWire(x, Bytes.withSum(Bytes.of(80, 25, members(1), members(24)))), ObjectDepot::unpack, BROKEN);
        byte[] empty = new byte[2 * 255];
        for (int i = 0; i < empty.length; i += 2) {
            empty[i] = BLOB;
        }
        wireTaken("24 times the empty blob", 1, Bytes.withSum(Bytes.of(80, 24, Arrays.copyOf(empty, 48))));
        wireRefused("25 times the empty blob", BROKEN, Bytes.withSum(Bytes.of(80, 25, Arrays.copyOf(empty, 50))));
        wireRefused("255 times the empty blob", BROKEN, Bytes.withSum(Bytes.of(80, 255, empty)));
    }

    /** "BROKEN if it is not exactly so". */
    private static void asManyMembersAsSaid() {
        wireRefused("0 said, 1 there", BROKEN, Bytes.withSum(Bytes.of(80, 0, members(1))));
        wireRefused("1 said, none there", BROKEN, Bytes.withSum(Bytes.of(80, 1)));
        wireRefused("1 said, 2 there", BROKEN, Bytes.withSum(Bytes.of(80, 1, members(2))));
        wireRefused("3 said, 2 there", BROKEN, Bytes.withSum(Bytes.of(80, 3, members(2))));
        wireRefused("24 said, 23 there", BROKEN, Bytes.withSum(Bytes.of(80, 24, members(23))));
        wireRefused("24 said, 25 there", BROKEN, Bytes.withSum(Bytes.of(80, 24, members(25))));
    }

    /** "or the last 4 bytes are not right". */
    private static void sumIsRight() {
        byte[] pack = Bytes.pack(MEMBER);
        for (int i = 1; i <= 4; i++) {
            for (int bit = 0; bit < 8; bit++) {
                byte[] other = pack.clone();
                other[pack.length - i] ^= (byte) (1 << bit);
                wireRefused("byte " + i + " from the end, bit " + bit, BROKEN, other);
            }
        }
        byte[] head = Arrays.copyOf(pack, pack.length - 4);
        byte[] sum = Bytes.sha1(head);
        wireRefused("the next four bytes of the sum", BROKEN, Bytes.of(head, Arrays.copyOfRange(sum, 4, 8)));
        wireRefused("the last four bytes of the sum", BROKEN, Bytes.of(head, Arrays.copyOfRange(sum, 16, 20)));
        wireRefused("the sum turned round", BROKEN, Bytes.of(head, new byte[] {sum[3], sum[2], sum[1], sum[0]}));
    }

    /** "0 bytes up to 56 modulo 64": a pack of each length up to that of a full wire. */
    private static void sumOfEachLength() {
        for (int length = 8; length <= 600; length++) {
            byte[] wire = packOf(length);
            Check.same("the length", wire.length, length);
            ObjectDepot x = new ObjectDepot();
            Bytes.setWire(x, wire);
            Check.yes("a pack of " + length, x.unpack() > 0);
            x.alter(length - 1, x.wire(length - 1) ^ 1);
            Check.same("a pack of " + length + " with a wrong sum", x.unpack(), BROKEN);
        }
    }

    private static byte[] packOf(int length) {
        int left = length - 6;
        byte[] members = new byte[0];
        int count = 0;
        while (left > 0) {
            int n = Math.min(50, left);
            n = left - n == 1 ? n - 1 : n;
            byte[] text = new byte[n - 2];
            Arrays.fill(text, (byte) count);
            members = Bytes.of(members, Bytes.whole(BLOB, text));
            left -= n;
            count++;
        }
        return Bytes.withSum(Bytes.of(80, count, members));
    }

    private static void nothingBehindTheSum() {
        byte[] pack = Bytes.pack(MEMBER);
        wireRefused("a byte more", BROKEN, Bytes.of(pack, 0));
        wireRefused("a byte more before the sum", BROKEN, Bytes.withSum(Bytes.of(80, 1, MEMBER, 0)));
        wireRefused("a sum of 3 bytes", BROKEN, Arrays.copyOf(pack, pack.length - 1));
        wireRefused("no sum", BROKEN, Arrays.copyOf(pack, pack.length - 4));
        wireRefused("a sum of 5 bytes", BROKEN, Bytes.of(80, 1, MEMBER,
            Arrays.copyOf(Bytes.sha1(Bytes.of(80, 1, MEMBER)), 5)));
        wireRefused("twice", BROKEN, Bytes.of(pack, pack));
    }

    private static void emptyAndShortWires() {
        byte[] pack = Bytes.pack(MEMBER);
        for (int n = 0; n < pack.length; n++) {
            wireRefused("the first " + n + " bytes", BROKEN, Arrays.copyOf(pack, n));
        }
        wireRefused("a sum alone", BROKEN, Bytes.withSum(new byte[0]));
        wireRefused("80 and its sum", BROKEN, Bytes.withSum(Bytes.of(80)));
    }

    /** "A member is: its kind 1, 2 or 3, ..; or 4 ..; or 5". */
    private static void kindsAre1To5() {
        taken("1", 1, Bytes.whole(1, Bytes.commit(7, STORED_TREE)));
        taken("2", 1, Bytes.whole(2, new byte[0]));
        taken("3", 1, Bytes.whole(3, new byte[0]));
        taken("4", 2, MEMBER, Bytes.deltaBack(0, 1, new byte[0]));
        taken("5", 2, MEMBER, Bytes.deltaNamed(0, TEXT_NAME, new byte[0]));
        for (int kind : new int[] {0, 6, 7, 128, 131, 255}) {
            refused("kind " + kind, BROKEN, MEMBER, Bytes.of(kind, 0));
            refused("kind " + kind + " like a delta", BROKEN, MEMBER, Bytes.of(kind, 0, 1, 0));
            refused("kind " + kind + " like a delta from a name", BROKEN, MEMBER, Bytes.of(kind, 0, TEXT_NAME, 0));
        }
    }

    /** "the number of bytes of its content, and these". */
    private static void wholeHasAsManyBytesAsSaid() {
        taken("10 said, 10 there", 1, Bytes.of(BLOB, 10, TEXT));
        refused("9 said, 10 there", BROKEN, Bytes.of(BLOB, 9, TEXT));
        refused("11 said, 10 there", BROKEN, Bytes.of(BLOB, 11, TEXT));
        refused("14 said, 10 and the sum there", BROKEN, Bytes.of(BLOB, 14, TEXT));
        refused("255 said", BROKEN, Bytes.of(BLOB, 255, TEXT));
        refused("1 said, none there", BROKEN, Bytes.of(BLOB, 1));
        refused("255 said, none there", BROKEN, Bytes.of(BLOB, 255));
        wireRefused("255 said, and a member there", BROKEN, Bytes.withSum(Bytes.of(80, 2, BLOB, 255, MEMBER)));
        refused("no number", BROKEN, MEMBER, Bytes.of(BLOB));
    }

    /** "BLOB (kind 3): at most 48 bytes". */
    private static void blobsHaveUpTo48() {
        for (int n : new int[] {0, 1, 47, 48}) {
            taken("a blob of " + n, 1, Bytes.whole(BLOB, new byte[n]));
            taken("a blob of " + n + " as a delta", 2, MEMBER, inserted(new byte[n]));
        }
        for (int n : new int[] {49, 50, 127}) {
            refused("a blob of " + n, BROKEN, Bytes.whole(BLOB, new byte[n]));
            refused("a blob of " + n + " as a delta", BROKEN, MEMBER, inserted(new byte[n]));
        }
        for (int n : new int[] {147, 148, 255}) {
            refused("a blob of " + n, BROKEN, Bytes.whole(BLOB, new byte[n]));
        }
    }

    /** A delta that only inserts, from the member before it. */
    private static byte[] inserted(byte[] content) {
        return Bytes.deltaBack(content.length, 1,
            content.length == 0 ? content : Bytes.of(content.length, content));
    }

    private static byte[] tree(String letters) {
        byte[] all = new byte[0];
        for (char letter : letters.toCharArray()) {
            all = Bytes.of(all, Bytes.entry(BLOB, letter, STORED_BLOB));
        }
        return Bytes.whole(TREE, all);
    }

    /** "TREE (kind 2): at most 4 ENTRIES". */
    private static void treesHaveUpTo4Entries() {
        taken("no entries", 1, tree(""));
        taken("one entry", 1, tree("b"));
        taken("three entries", 1, tree("abc"));
        taken("four entries", 1, tree("abcd"));
        refused("five entries", BROKEN, tree("abcde"));
        refused("six entries", BROKEN, tree("abcdef"));
        taken("four entries of trees", 1, Bytes.whole(TREE, Bytes.of(Bytes.entry(TREE, 'a', STORED_TREE),
            Bytes.entry(TREE, 'b', STORED_TREE), Bytes.entry(TREE, 'c', STORED_TREE), Bytes.entry(TREE, 'd', STORED_TREE))));
        refused("five entries of trees", BROKEN, Bytes.whole(TREE, Bytes.of(Bytes.entry(TREE, 'a', STORED_TREE),
            Bytes.entry(TREE, 'b', STORED_TREE), Bytes.entry(TREE, 'c', STORED_TREE), Bytes.entry(TREE, 'd', STORED_TREE),
            Bytes.entry(TREE, 'e', STORED_TREE))));
    }

    /** "in ascending order of their letters, no letter twice". */
    private static void lettersAscend() {
        taken("ab", 1, tree("ab"));
        refused("aa", BROKEN, tree("aa"));
        refused("ba", BROKEN, tree("ba"));
        taken("wxyz", 1, tree("wxyz"));
        refused("wxyy", BROKEN, tree("wxyy"));
        refused("wxzy", BROKEN, tree("wxzy"));
        refused("wwyz", BROKEN, tree("wwyz"));
        refused("xwyz", BROKEN, tree("xwyz"));
        refused("a blob and a tree of one letter", BROKEN, Bytes.whole(TREE,
            Bytes.of(Bytes.entry(BLOB, 'c', STORED_BLOB), Bytes.entry(TREE, 'c', STORED_TREE))));
        taken("a tree, then a blob", 1, Bytes.whole(TREE,
            Bytes.of(Bytes.entry(TREE, 'c', STORED_TREE), Bytes.entry(BLOB, 'd', STORED_BLOB))));
    }

    /** "its letter (a .. z)". */
    private static void lettersAreAToZ() {
        taken("a tree as stored", 0, tree("a"));
        taken("z", 1, tree("z"));
        taken("az", 1, tree("az"));
        for (char letter : new char[] {'a' - 1, 'z' + 1, 'A', 'Z', '0', ' ', 0, 128 + 'a', 255}) {
            refused("letter " + (int) letter, BROKEN, tree("" + letter));
            refused("letter " + (int) letter + " behind b", BROKEN, tree("b" + letter));
        }
    }

    private static byte[] rawTree(Object... parts) {
        return Bytes.whole(TREE, Bytes.of(parts));
    }

    /** "an entry is the characters 100644 .. 40000 .., a blank, its letter, a 0 byte, and the 20 bytes of the NAME". */
    private static void entriesHaveTheirForm() {
        taken("a blob's", 1, rawTree("100644 q", 0, STORED_BLOB));
        taken("a tree's", 1, rawTree("40000 q", 0, STORED_TREE));
        for (String mode : new String[] {"", " ", "0 ", "10064 ", "100645 ", "1006440 ", "100644", "100644\0", "4000 ",
            "40001 ", "400000 ", "040000 ", "40000", "40000\0", "140000 ", "100755 ", "160000 "}) {
            refused("[" + mode + "] of a blob", BROKEN, rawTree(mode + "q", 0, STORED_BLOB));
            refused("[" + mode + "] of a tree", BROKEN, rawTree(mode + "q", 0, STORED_TREE));
        }
        refused("no letter", BROKEN, rawTree("100644 ", 0, STORED_BLOB));
        refused("two letters", BROKEN, rawTree("100644 qr", 0, STORED_BLOB));
        refused("no 0 byte", BROKEN, rawTree("100644 q", STORED_BLOB));
        refused("1 for the 0 byte", BROKEN, rawTree("100644 q", 1, STORED_BLOB));
        refused("two 0 bytes", BROKEN, rawTree("100644 q", 0, 0, STORED_BLOB));
        refused("19 bytes of a name", BROKEN, rawTree("100644 q", 0, Arrays.copyOf(STORED_BLOB, 19)));
        refused("21 bytes of a name", BROKEN, rawTree("100644 q", 0, STORED_BLOB, 0));
        refused("no name", BROKEN, rawTree("100644 q", 0));
        refused("a name in 40 characters", BROKEN, rawTree("100644 q", 0, Bytes.hex(STORED_BLOB)));
        refused("a second entry without a name", BROKEN, rawTree("100644 q", 0, STORED_BLOB, "100644 r", 0));
        refused("one byte", BROKEN, rawTree("1"));
    }

    private static final String TREE_LINE = "tree " + Bytes.hex(STORED_TREE) + "\n";
    private static final String PARENT_LINE = "parent " + Bytes.hex(STORED_COMMIT) + "\n";

    private static void commitTaken(String what, String text) {
        taken(what, 1, Bytes.whole(COMMIT, Bytes.of(text)));
    }

    private static void commitRefused(String what, String text) {
        refused(what, BROKEN, Bytes.whole(COMMIT, Bytes.of(text)));
    }

    /** "for each of at most 2 PARENTS". */
    private static void commitsHaveUpTo2Parents() {
        commitTaken("no parent", TREE_LINE + "\n7\n");
        commitTaken("one parent", TREE_LINE + PARENT_LINE + "\n7\n");
        commitTaken("two parents", TREE_LINE + PARENT_LINE + PARENT_LINE + "\n7\n");
        commitTaken("two parents and 999", TREE_LINE + PARENT_LINE + PARENT_LINE + "\n999\n");
        commitRefused("three parents", TREE_LINE + PARENT_LINE + PARENT_LINE + PARENT_LINE + "\n7\n");
        commitRefused("four parents", TREE_LINE + PARENT_LINE.repeat(4) + "\n7\n");
    }

    /** "tree, a blank, the NAME of a tree, a newline (10); .. parent, a blank, .. a newline; then a newline, a number, and a newline". */
    private static void commitsHaveTheirForm() {
        commitRefused("nothing", "");
        commitRefused("no tree", "\n7\n");
        commitRefused("two trees", TREE_LINE + TREE_LINE + "\n7\n");
        commitRefused("a parent before the tree", PARENT_LINE + TREE_LINE + "\n7\n");
        commitRefused("no blank behind tree", "tree" + TREE_LINE.substring(5) + "\n7\n");
        commitRefused("two blanks behind tree", "tree  " + TREE_LINE.substring(5) + "\n7\n");
        commitRefused("no newline behind the tree", TREE_LINE.substring(0, 45) + "\n7\n");
        commitRefused("13 for a newline", TREE_LINE.substring(0, 45) + "\r\n7\n");
        commitRefused("another word for tree", "Tree " + TREE_LINE.substring(5) + "\n7\n");
        commitRefused("another word for parent", TREE_LINE + "Parent " + PARENT_LINE.substring(7) + "\n7\n");
        commitRefused("no blank behind parent", TREE_LINE + "parent" + PARENT_LINE.substring(7) + "\n7\n");
        commitRefused("no newline behind a parent", TREE_LINE + PARENT_LINE.substring(0, 47) + "\n7\n");
        commitRefused("no empty line", TREE_LINE + "7\n");
        commitRefused("no empty line behind a parent", TREE_LINE + PARENT_LINE + "7\n");
        commitRefused("no empty line behind two", TREE_LINE + PARENT_LINE + PARENT_LINE + "7\n");
        commitRefused("two empty lines", TREE_LINE + "\n\n7\n");
        commitRefused("no newline at the end", TREE_LINE + "\n7");
        commitRefused("two newlines at the end", TREE_LINE + "\n7\n\n");
        commitRefused("a parent behind the number", TREE_LINE + "\n7\n" + PARENT_LINE);
        commitRefused("the tree line alone", TREE_LINE);
        commitRefused("the tree line and an empty one", TREE_LINE + "\n");
    }

    /** "a number 0 .. 999 without a 0 at its front (0 is one 0)". */
    private static void numbersAre0To999() {
        for (String number : new String[] {"0", "2", "9", "10", "99", "100", "101", "109", "900", "999"}) {
            commitTaken("number " + number, TREE_LINE + "\n" + number + "\n");
        }
        for (String number : new String[] {"", "00", "01", "09", "000", "001", "010", "099", "0999", "1000", "9999",
            "0000", "-0", "-1", "+1", " 1", "1 ", "1.", "a", "f", "1a", "/", ":", "1/", "1:", "12:", "\0"}) {
            commitRefused("number " + number, TREE_LINE + "\n" + number + "\n");
        }
    }

    /** "a NAME is written in 40 characters 0 .. 9, a .. f, four bits each, the highest first". */
    private static void namesHave40Digits() {
        String digits = "0123456789abcdef".repeat(3).substring(0, 40);
        refused("each digit, of a tree that is nowhere", LACKING, Bytes.whole(COMMIT, Bytes.of("tree " + digits + "\n\n7\n")));
        for (char digit : new char[] {'0' - 1, '9' + 1, 'a' - 1, 'f' + 1, 'A', 'F', 'g', 'z', ' ', '\n', 0, 255}) {
            for (int place : new int[] {0, 7, 8, 20, 39}) {
                commitRefused("character " + (int) digit + " at " + place + " of the tree",
                    TREE_LINE.substring(0, 5 + place) + digit + TREE_LINE.substring(6 + place) + "\n7\n");
                commitRefused("character " + (int) digit + " at " + place + " of a parent", TREE_LINE
                    + PARENT_LINE.substring(0, 7 + place) + digit + PARENT_LINE.substring(8 + place) + "\n7\n");
            }
        }
        commitRefused("no digits of the tree", "tree \n\n7\n");
        commitRefused("no digits of a parent", TREE_LINE + "parent \n\n7\n");
        commitRefused("39 digits of the tree", TREE_LINE.substring(0, 44) + "\n\n7\n");
        commitRefused("41 digits of the tree", TREE_LINE.substring(0, 45) + "0\n\n7\n");
        commitRefused("39 digits of a parent", TREE_LINE + PARENT_LINE.substring(0, 46) + "\n\n7\n");
        commitRefused("41 digits of a parent", TREE_LINE + PARENT_LINE.substring(0, 47) + "0\n\n7\n");
        commitRefused("the 20 bytes of the name", "tree " + Model.text(STORED_TREE) + "\n\n7\n");
    }

    /** "its base is the member d members before it"; BROKEN if it "has no base". */
    private static void baseIsAMemberBefore() {
        byte[] copy = Bytes.of(132, 0);
        byte[] insert = Bytes.of(1, "x");
        taken("d = 1 behind one", 2, MEMBER, Bytes.deltaBack(4, 1, copy));
        taken("d = 2 behind two", 3, MEMBER, Bytes.whole(TREE, new byte[0]), Bytes.deltaBack(4, 2, copy));
        for (byte[] delta : new byte[][] {copy, insert, new byte[0]}) {
            int length = delta.length == 2 && delta[0] == 1 ? 1 : delta.length * 2;
            refused("d = 0", BROKEN, MEMBER, Bytes.deltaBack(length, 0, delta));
            refused("d = 1 as the first", BROKEN, Bytes.deltaBack(length, 1, delta));
            refused("d = 0 as the first", BROKEN, Bytes.deltaBack(length, 0, delta));
            refused("d = 2 behind one", BROKEN, MEMBER, Bytes.deltaBack(length, 2, delta));
            refused("d = 3 behind two", BROKEN, MEMBER, MEMBER, Bytes.deltaBack(length, 3, delta));
            refused("d = 255", BROKEN, MEMBER, Bytes.deltaBack(length, 255, delta));
        }
        byte[][] many = new byte[24][];
        Arrays.fill(many, Bytes.whole(BLOB, Bytes.of("other")));
        many[0] = MEMBER;
        many[23] = Bytes.deltaBack(4, 23, copy);
        taken("d = 23 as the last of 24", 3, many);
        many[23] = Bytes.deltaBack(4, 24, copy);
        refused("d = 24 as the last of 24", BROKEN, many);
    }

    /** "its base is the member before it with that NAME, or else the object of the store". */
    private static void baseIsNamed() {
        byte[] delta = Bytes.deltaNamed(4, TEXT_NAME, Bytes.of(132, 6));
        taken("the member just before it", 2, MEMBER, delta);
        taken("a member far before it", 4, MEMBER, tree("x"), tree("y"), delta);
        taken("an object of the store", 1, Bytes.deltaNamed(2, STORED_BLOB, Bytes.of(129, 0, 129, 0)));
        taken("an object of the store, with other members", 2, MEMBER,
            Bytes.deltaNamed(2, STORED_BLOB, Bytes.of(129, 0, 129, 0)));
        refused("nowhere", BROKEN, delta);
        refused("nowhere, without parts", BROKEN, Bytes.deltaNamed(0, TEXT_NAME, new byte[0]));
        refused("nowhere, and only inserts", BROKEN, Bytes.deltaNamed(1, TEXT_NAME, Bytes.of(1, "x")));
        refused("the member behind it", BROKEN, delta, MEMBER);
        refused("itself", BROKEN, Bytes.deltaNamed(10, TEXT_NAME, Bytes.of(10, TEXT)));
        refused("0 bytes for a name", BROKEN, MEMBER, Bytes.deltaNamed(4, NOWHERE, Bytes.of(132, 6)));
        for (int i = 0; i < 20; i++) {
            byte[] other = TEXT_NAME.clone();
            other[i] ^= 1;
            refused("byte " + i + " of the name wrong", BROKEN, MEMBER, Bytes.deltaNamed(4, other, Bytes.of(132, 6)));
        }
        Edge.refused("an object that is gone", x -> {
            Setups.mixed(x);
            x.clean();
            Bytes.setWire(x, Bytes.pack(Bytes.deltaNamed(4, Bytes.name(BLOB, Bytes.of("lost")), Bytes.of(132, 0))));
        }, ObjectDepot::unpack, BROKEN);
    }

    private static void kindIs(String what, int kind, int place, byte[]... members) {
        ObjectDepot x = Edge.taken(what, withWire(Setups.OBJECTS, Bytes.pack(members)), ObjectDepot::unpack, members.length);
        Check.same(what + ": kind", x.object(Setups.OBJECTS + place, 0), kind);
    }

    /** "whose kind it has"; "and it has its kind"; "the content of a member is no content of its kind". */
    private static void deltaHasItsBasesKind() {
        byte[] tree = Bytes.entry(TREE, 'k', STORED_TREE);
        kindIs("from a tree to none", TREE, 1, Bytes.whole(TREE, tree), Bytes.deltaBack(0, 1, new byte[0]));
        kindIs("from a blob to none", BLOB, 1, MEMBER, Bytes.deltaBack(0, 1, new byte[0]));
        kindIs("from a commit of the store", COMMIT, 0, Bytes.deltaNamed(49, STORED_COMMIT, Bytes.of(128 + 47, 0, 2, "8\n")));
        kindIs("from a tree of the store", TREE, 0, Bytes.deltaNamed(0, STORED_TREE, new byte[0]));
        kindIs("a tree's bytes from a blob", BLOB, 1, MEMBER, Bytes.deltaBack(28, 1, Bytes.of(28, tree)));
        refused("a text from a tree", BROKEN, Bytes.whole(TREE, tree), Bytes.deltaBack(1, 1, Bytes.of(1, "x")));
        refused("nothing from a commit", BROKEN, Bytes.deltaNamed(0, STORED_COMMIT, new byte[0]));
        refused("49 bytes from a blob", BROKEN, MEMBER, inserted(STORED_COMMIT_CONTENT));
    }

    /** "the number of bytes of the delta, and the delta". */
    private static void deltaHasAsManyBytesAsSaid() {
        taken("2 said, 2 there", 2, MEMBER, Bytes.of(4, 1, 1, 2, 1, "x"));
        refused("1 said, 2 there", BROKEN, MEMBER, Bytes.of(4, 1, 1, 1, 1, "x"));
        refused("3 said, 2 there", BROKEN, MEMBER, Bytes.of(4, 1, 1, 3, 1, "x"));
        refused("0 said, 2 there", BROKEN, MEMBER, Bytes.of(4, 1, 1, 0, 1, "x"));
        refused("255 said, 2 there", BROKEN, MEMBER, Bytes.of(4, 1, 1, 255, 1, "x"));
        refused("no number", BROKEN, MEMBER, Bytes.of(4, 1, 1));
        refused("no d", BROKEN, MEMBER, Bytes.of(4, 1));
        taken("2 said, 2 there, named", 2, MEMBER, Bytes.of(5, 1, TEXT_NAME, 2, 1, "x"));
        refused("1 said, 2 there, named", BROKEN, MEMBER, Bytes.of(5, 1, TEXT_NAME, 1, 1, "x"));
        refused("3 said, 2 there, named", BROKEN, MEMBER, Bytes.of(5, 1, TEXT_NAME, 3, 1, "x"));
        refused("no number, named", BROKEN, MEMBER, Bytes.of(5, 1, TEXT_NAME));
        refused("19 bytes of a name", BROKEN, MEMBER, Bytes.of(5, 1, Arrays.copyOf(TEXT_NAME, 19), 2, 1, "x"));
    }

    /** Each kind of member, cut behind each of its bytes, at the end of a wire that can hold no more. */
    private static void membersEndWithTheWire() {
        byte[][] whole = {MEMBER, Bytes.whole(TREE, Bytes.entry(BLOB, 'a', STORED_BLOB)),
            Bytes.whole(COMMIT, Bytes.commit(7, STORED_TREE)), Bytes.of(4, 7, 1, 6, 132, 0, 3, "xyz"),
            Bytes.of(5, 7, STORED_BLOB, 6, 129, 0, 5, "wxyz!")};
        for (byte[] member : whole) {
            for (int n = 0; n < member.length; n++) {
                byte[] before = packOf(600 - n + 4);
                before = Arrays.copyOf(before, 600 - n);
                before[1]++;
                byte[] wire = Bytes.of(before, Arrays.copyOf(member, n));
                Check.same("a full wire", wire.length, 600);
                wireRefused("kind " + member[0] + " cut behind " + n + " bytes", BROKEN, wire);
            }
        }
    }

    private static void deltaTaken(String what, int length, Object... delta) {
        taken(what, 2, MEMBER, Bytes.deltaBack(length, 1, Bytes.of(delta)));
        taken(what + ", named", 2, MEMBER, Bytes.deltaNamed(length, TEXT_NAME, Bytes.of(delta)));
    }

    private static void deltaRefused(String what, int length, Object... delta) {
        refused(what, BROKEN, MEMBER, Bytes.deltaBack(length, 1, Bytes.of(delta)));
        refused(what + ", named", BROKEN, MEMBER, Bytes.deltaNamed(length, TEXT_NAME, Bytes.of(delta)));
    }

    /** BROKEN if "a member's delta does not give exactly as many bytes as said". */
    private static void deltaGivesAsManyBytesAsSaid() {
        deltaTaken("7 said, 7 given", 7, 132, 0, 3, "xyz");
        deltaRefused("6 said, 7 given", 6, 132, 0, 3, "xyz");
        deltaRefused("8 said, 7 given", 8, 132, 0, 3, "xyz");
        deltaRefused("0 said, 7 given", 0, 132, 0, 3, "xyz");
        deltaTaken("0 said, none given", 0);
        deltaRefused("1 said, none given", 1);
        deltaTaken("48 said, 48 given", 48, 138, 0, 138, 0, 138, 0, 138, 0, 136, 0);
        deltaRefused("48 said, 49 given", 48, 138, 0, 138, 0, 138, 0, 138, 0, 137, 0);
        Object[] copies = new Object[54];
        for (int i = 0; i < copies.length; i += 2) {
            copies[i] = 138;
            copies[i + 1] = 0;
        }
        // 270 bytes are given, of which 256 would be lost in a single byte.
        deltaRefused("14 said, 270 given", 14, copies);
    }

    /** BROKEN if it "copies from behind the end of its base". */
    private static void copiesEndWithTheBase() {
        deltaTaken("all of the base but one", 9, 137, 0);
        deltaTaken("up to the end", 4, 132, 6);
        deltaRefused("one over the end", 5, 133, 6);
        deltaTaken("the last byte", 1, 129, 9);
        deltaRefused("the byte behind the last", 1, 129, 10);
        deltaRefused("from far behind the end", 1, 129, 255);
        deltaRefused("11 of 10", 11, 139, 0);
        deltaRefused("over the end, then right", 7, 133, 6, 130, 0);
        deltaRefused("over the end, then as many as said", 2, 133, 6, 130, 0);
        deltaRefused("as many as said, then over the end", 2, 130, 0, 133, 6);
        deltaRefused("over the end alone, and none said", 0, 129, 10);
        refused("from an empty base", BROKEN, Bytes.whole(BLOB, new byte[0]), Bytes.deltaBack(1, 1, Bytes.of(129, 0)));
        taken("all of the base", 1, MEMBER, Bytes.deltaBack(10, 1, Bytes.of(138, 0)));
    }

    /** "an INSERT is a byte n, 1 .. 127"; "a COPY is a byte 128 + n, n being 1 .. 127". */
    private static void partsAre1To127() {
        deltaTaken("an insert of 1", 1, 1, "x");
        deltaRefused("an insert of 0", 0, 0);
        deltaRefused("an insert of 0, then right", 1, 0, 1, "x");
        deltaRefused("right, then an insert of 0", 1, 1, "x", 0);
        deltaTaken("a copy of 1", 1, 129, 5);
        deltaRefused("a copy of 0", 0, 128, 0);
        deltaRefused("a copy of 0 at 5", 0, 128, 5);
        deltaRefused("a copy of 0, then right", 1, 128, 0, 1, "x");
        deltaRefused("right, then a copy of 0", 1, 1, "x", 128, 0);
        deltaTaken("copies of fewer than 4", 6, 129, 0, 130, 3, 131, 7);
        byte[] two = Bytes.commit(123, STORED_TREE, STORED_COMMIT, STORED_COMMIT);
        byte[] other = Bytes.commit(124, STORED_TREE, STORED_COMMIT, STORED_COMMIT);
        taken("an insert of 127", 2, Bytes.whole(COMMIT, Bytes.commit(9, STORED_TREE)), Bytes.deltaBack(147, 1,
            Bytes.of(127, Arrays.copyOf(two, 127), 20, Arrays.copyOfRange(two, 127, 147))));
        taken("a copy of 127", 2, Bytes.whole(COMMIT, two), Bytes.deltaBack(147, 1,
            Bytes.of(255, 0, 18, Arrays.copyOfRange(other, 127, 145), 2, "4\n")));
        refused("a copy of 127 where 126 are left", BROKEN, Bytes.whole(COMMIT, two), Bytes.deltaBack(147, 1,
            Bytes.of(20, Arrays.copyOf(two, 20), 255, 21)));
        taken("a copy of 127 where 127 are left", 1, Bytes.whole(COMMIT, two), Bytes.deltaBack(147, 1,
            Bytes.of(20, Arrays.copyOf(two, 20), 255, 20)));
    }

    private static void partsEndWithTheDelta() {
        deltaTaken("an insert up to the end", 3, 3, "xyz");
        deltaRefused("an insert over the end", 3, 4, "xyz");
        deltaRefused("an insert over the end, 4 said", 4, 4, "xyz");
        deltaRefused("an insert without bytes", 0, 5);
        deltaRefused("a copy without a place", 4, 132);
        deltaRefused("a copy without a place, none said", 0, 132);
        // The bytes that they lack stand behind the delta, in the next member.
        refused("an insert into the next member", BROKEN, MEMBER, Bytes.of(4, 3, 1, 2, 3, "x"), Bytes.whole(BLOB, new byte[0]));
        // What is broken is not read as a member instead.
        wireRefused("a cut insert that reads as a member", BROKEN, Bytes.withSum(Bytes.of(80, 3, MEMBER, 4, 0, 1, 2, BLOB, 0)));
        wireRefused("a cut insert that reads as a member, named", BROKEN,
            Bytes.withSum(Bytes.of(80, 3, MEMBER, 5, 0, TEXT_NAME, 2, BLOB, 0)));
        refused("a copy with its place in the next member", BROKEN, MEMBER, Bytes.of(4, 4, 1, 1, 132), Bytes.whole(BLOB, new byte[0]));
    }

    /** "(names may be anything there)": what they name is lacking, but nothing is broken. */
    private static void namesMayBeAnything() {
        byte[] wild = new byte[20];
        Arrays.fill(wild, (byte) 255);
        for (byte[] name : new byte[][] {NOWHERE, wild, Bytes.of("100644 a", 0, "40000 b", 0, "abc")}) {
            refused("an entry of a blob", LACKING, Bytes.whole(TREE, Bytes.entry(BLOB, 'a', name)));
            refused("an entry of a tree", LACKING, Bytes.whole(TREE, Bytes.entry(TREE, 'a', name)));
            refused("a commit's tree", LACKING, Bytes.whole(COMMIT, Bytes.commit(1, name)));
            refused("a commit's parent", LACKING, Bytes.whole(COMMIT, Bytes.commit(1, STORED_TREE, name)));
        }
    }

    /** LACKING if "an object that a member names .. is neither a member nor in the store". */
    private static void namedIsMemberOrStored() {
        byte[] newTree = Bytes.entry(BLOB, 'n', TEXT_NAME);
        byte[] treeName = Bytes.name(TREE, newTree);
        byte[] newCommit = Bytes.commit(5, treeName);
        byte[] commitName = Bytes.name(COMMIT, newCommit);
        byte[] tree = Bytes.whole(TREE, newTree);
        byte[] commit = Bytes.whole(COMMIT, newCommit);
        taken("in the store", 1, Bytes.whole(COMMIT, Bytes.commit(9, STORED_TREE, STORED_COMMIT)));
        taken("a member before it", 2, MEMBER, tree);
        taken("a member behind it", 2, tree, MEMBER);
        refused("neither", LACKING, tree);
        byte[][] many = new byte[24][];
        Arrays.fill(many, Bytes.whole(BLOB, Bytes.of("other")));
        many[23] = tree;
        refused("neither, with 23 other members", LACKING, many);
        many[22] = MEMBER;
        taken("with 22 other members", 3, many);
        taken("all turned round", 3, commit, tree, MEMBER);
        refused("what a member names", LACKING, commit, tree);
        refused("a commit's tree", LACKING, commit, MEMBER);
        taken("a parent", 4, Bytes.whole(COMMIT, Bytes.commit(6, STORED_TREE, commitName)), commit, tree, MEMBER);
        refused("a first parent", LACKING, Bytes.whole(COMMIT, Bytes.commit(6, STORED_TREE, commitName, STORED_COMMIT)));
        refused("a second parent", LACKING, Bytes.whole(COMMIT, Bytes.commit(6, STORED_TREE, STORED_COMMIT, commitName)));
        byte[] first = Bytes.of(Bytes.entry(BLOB, 'a', TEXT_NAME), Bytes.entry(BLOB, 'b', STORED_BLOB));
        byte[] last = Bytes.of(Bytes.entry(BLOB, 'a', STORED_BLOB), Bytes.entry(BLOB, 'b', STORED_BLOB),
            Bytes.entry(TREE, 'c', STORED_TREE), Bytes.entry(BLOB, 'd', TEXT_NAME));
        refused("the first entry", LACKING, Bytes.whole(TREE, first));
        refused("the fourth entry", LACKING, Bytes.whole(TREE, last));
        taken("the fourth entry is a member", 2, Bytes.whole(TREE, last), MEMBER);
        taken("a member that is a delta", 2, tree, Bytes.deltaNamed(10, STORED_BLOB, Bytes.of(10, TEXT)));
        Edge.refused("gone from the store", x -> {
            Setups.mixed(x);
            x.clean();
            Bytes.setWire(x, Bytes.pack(Bytes.whole(TREE, Bytes.entry(BLOB, 'x', Bytes.name(BLOB, Bytes.of("lost"))))));
        }, ObjectDepot::unpack, LACKING);
    }

    /** "(of the kind that it must have there)". */
    private static void namedHasItsKind() {
        byte[][] stored = {null, STORED_COMMIT, STORED_TREE, STORED_BLOB};
        byte[] treeText = new byte[0];
        byte[] commitText = Bytes.commit(5, STORED_TREE);
        byte[][] members = {null, Bytes.whole(COMMIT, commitText), Bytes.whole(TREE, treeText), MEMBER};
        byte[][] names = {null, Bytes.name(COMMIT, commitText), Bytes.name(TREE, treeText), TEXT_NAME};
        for (int kind = COMMIT; kind <= BLOB; kind++) {
            kindDue("stored", kind, stored[kind]);
            kindDue("a member", kind, names[kind], members[kind]);
        }
    }

    private static void kindDue(String what, int kind, byte[] name, byte[]... members) {
        byte[][] naming = {Bytes.whole(TREE, Bytes.entry(BLOB, 'k', name)), Bytes.whole(TREE, Bytes.entry(TREE, 'k', name)),
            Bytes.whole(COMMIT, Bytes.commit(9, name)), Bytes.whole(COMMIT, Bytes.commit(9, STORED_TREE, name)),
            Bytes.whole(COMMIT, Bytes.commit(9, STORED_TREE, STORED_COMMIT, name))};
        int[] kinds = {BLOB, TREE, TREE, COMMIT, COMMIT};
        for (int i = 0; i < naming.length; i++) {
            byte[][] all = Arrays.copyOf(members, members.length + 1);
            all[members.length] = naming[i];
            String which = what + " of kind " + kind + " named by " + i;
            if (kinds[i] == kind) {
                taken(which, all.length, all);
            } else {
                refused(which, LACKING, all);
            }
        }
    }

    /** "FULL if there would be more than 24 objects". */
    private static void upTo24Objects() {
        byte[] one = Bytes.whole(BLOB, Bytes.of("one"));
        byte[] two = Bytes.whole(BLOB, Bytes.of("two"));
        byte[] known = Bytes.whole(BLOB, Bytes.of("lost 7"));
        Edge.taken("a 24th", withWire(23, Bytes.pack(one)), ObjectDepot::unpack, 1);
        Edge.taken("a 23rd and a 24th", withWire(22, Bytes.pack(one, two)), ObjectDepot::unpack, 2);
        Edge.refused("a 24th and a 25th", withWire(23, Bytes.pack(one, two)), ObjectDepot::unpack, FULL);
        Edge.refused("a 25th", withWire(24, Bytes.pack(one)), ObjectDepot::unpack, FULL);
        Edge.taken("a 24th twice", withWire(23, Bytes.pack(one, one)), ObjectDepot::unpack, 1);
        Edge.taken("a 24th and known ones", withWire(23, Bytes.pack(known, one, known)), ObjectDepot::unpack, 1);
        Edge.taken("known ones alone", withWire(24, Bytes.pack(known, known)), ObjectDepot::unpack, 0);
        Edge.refused("known ones and a 25th", withWire(24, Bytes.pack(known, one, known)), ObjectDepot::unpack, FULL);
        byte[] all = Bytes.withSum(Bytes.of(80, 24, members(24)));
        Edge.taken("24 into a new one", x -> Bytes.setWire(x, all), ObjectDepot::unpack, 24);
        Edge.refused("24 and one that is there", x -> {
            Bytes.blob(x, "there");
            Bytes.setWire(x, all);
        }, ObjectDepot::unpack, FULL);
        Edge.taken("24, one of which is there", x -> {
            x.put(1, 23);
            x.blob();
            Bytes.setWire(x, all);
        }, ObjectDepot::unpack, 23);
    }

    /** "for the first of these reasons". */
    private static void firstReasonCounts() {
        byte[] one = Bytes.whole(BLOB, Bytes.of("one"));
        byte[] lacking = Bytes.whole(TREE, Bytes.entry(BLOB, 'a', NOWHERE));
        byte[] broken = Bytes.whole(BLOB, new byte[49]);
        byte[] wrongSum = Bytes.pack(one, lacking);
        wrongSum[wrongSum.length - 1] ^= 1;
        for (int objects : new int[] {Setups.OBJECTS, 24}) {
            Edge.refused("lacking, then broken", withWire(objects, Bytes.pack(one, lacking, broken)), ObjectDepot::unpack, BROKEN);
            Edge.refused("broken, then lacking", withWire(objects, Bytes.pack(one, broken, lacking)), ObjectDepot::unpack, BROKEN);
            Edge.refused("lacking, and a wrong sum", withWire(objects, wrongSum), ObjectDepot::unpack, BROKEN);
            Edge.refused("lacking", withWire(objects, Bytes.pack(one, lacking)), ObjectDepot::unpack, LACKING);
        }
        Edge.refused("full and broken", withWire(24, Bytes.pack(one, broken)), ObjectDepot::unpack, BROKEN);
        Edge.refused("full alone", withWire(24, Bytes.pack(one)), ObjectDepot::unpack, FULL);
    }

    /** "Otherwise all members are STORED, in their order". */
    private static void storedInTheirOrder() {
        byte[][] texts = {Bytes.of("one"), Bytes.of("b"), Bytes.of("two"), Bytes.of("one"), Bytes.of("six")};
        byte[][] members = new byte[texts.length][];
        for (int i = 0; i < texts.length; i++) {
            members[i] = Bytes.whole(BLOB, texts[i]);
        }
        ObjectDepot x = Edge.taken("five members", y -> {
            Setups.mixed(y);
            y.clean();
            y.tree();
            Bytes.setWire(y, Bytes.pack(members));
        }, ObjectDepot::unpack, 3);
        Check.yes("the stored one stays", Bytes.same(Bytes.contentOf(x, 0), Bytes.of("b")));
        Check.yes("the first", Bytes.same(Bytes.contentOf(x, 5), Bytes.of("one")));
        Check.yes("the next", Bytes.same(Bytes.contentOf(x, 6), Bytes.of("two")));
        Check.yes("the last", Bytes.same(Bytes.contentOf(x, 7), Bytes.of("six")));
        Check.same("no more", Bytes.count(x), 8);
        Check.same("references stay", x.reference(1), Setups.COMMIT);
        Check.same("moves stay", x.history(2, 0), ObjectDepot.NONE);
    }

    /** "how many objects are new (one that is in it twice counts once)". */
    private static void newOnesAreCounted() {
        byte[] stored = Bytes.whole(BLOB, Bytes.of("b"));
        taken("none", 0, stored);
        taken("none, twice", 0, stored, stored);
        taken("one", 1, MEMBER);
        taken("one, twice", 1, MEMBER, MEMBER);
        taken("one, as itself and as a delta", 1, MEMBER, Bytes.deltaBack(10, 1, Bytes.of(138, 0)));
        taken("one and none", 1, stored, MEMBER, stored, MEMBER);
        taken("a blob and a tree, both empty", 2, Bytes.whole(BLOB, new byte[0]), Bytes.whole(TREE, new byte[0]));
    }

    /** "the pack on the wire (which stays there)". */
    private static void wireStays() {
        byte[] wire = Bytes.pack(MEMBER);
        ObjectDepot x = Edge.taken("once", withWire(Setups.OBJECTS, wire), ObjectDepot::unpack, 1);
        Check.same("twice", x.unpack(), 0);
        Check.yes("the wire is the same", Bytes.same(Bytes.wireOf(x), wire));
        x.clean();
        Check.same("once more", x.unpack(), 1);
    }
}
