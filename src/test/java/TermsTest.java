import java.util.function.Function;

/** What the document says before its promises, sentence by sentence, with NAMEs and packs written out. */
public final class TermsTest {
    private static final int NONE = ObjectDepot.NONE;
    private static final int FULL = ObjectDepot.FULL;

    // The objects of run() below: their numbers, and their NAMEs, which git gives to these contents, too.
    private static final int FOX = 0;
    private static final int CAT = 1;
    private static final int RUNS = 2;
    private static final int INNER = 3;
    private static final int OUTER = 4;
    private static final int FIRST = 5;
    private static final int SECOND = 6;
    private static final int THIRD = 7;
    private static final String[] NAMES = {
        "596def2806e4ffe0cf150ac911788b623392ca97", "bdad4836c0a5c1bc0476f1d3ebdbc6a1d80bb79c",
        "73ffa9baa1236172069ed8f9678c13ba11a82067", "39756426470188e14fafdbd1c81543f7e9263b38",
        "d2a6dcc3596a361ebcf556ab007fc79e78a66ade", "6a7f625c42f23d8875ecd76ddd552663ade383c7",
        "284afd8fabb45444f4da6a55be81e973ba92a041", "42863376719e4002d8a785624d481c842b6f31a5"};
    private static final byte[][] CONTENTS = {
        Bytes.of("the quick brown fox"),
        Bytes.of("the quick brown cat"),
        Bytes.of("the quick red cat runs"),
        Bytes.of("100644 a", 0, name(FOX), "100644 b", 0, name(CAT)),
        Bytes.of("100644 a", 0, name(FOX), "100644 b", 0, name(CAT), "40000 m", 0, name(INNER),
            "100644 z", 0, name(RUNS)),
        Bytes.of("tree " + NAMES[INNER] + "\n\n0\n"),
        Bytes.of("tree " + NAMES[OUTER] + "\nparent " + NAMES[FIRST] + "\n\n10\n"),
        Bytes.of("tree " + NAMES[OUTER] + "\nparent " + NAMES[SECOND] + "\nparent " + NAMES[FIRST] + "\n\n999\n")};
    private static final int[] KINDS = {3, 3, 3, 2, 2, 1, 1, 1};

    private TermsTest() {
    }

    public static void main(String[] args) {
        bytesAre0To255();
        numbersAre0To23();
        eachWayTakesTheLeastNumber();
        contentsAndNames();
        namesOfEachLength();
        kindsHaveNamesOfTheirOwn();
        objectsNameAndReach();
        storedOnlyOnce();
        referencesHoldCommitsOrNothing();
        historyIsOneRow();
        cleaningKeepsWhatIsNamed();
        packsAreWritten();
        packsAreTakenIn();
        bufferListAndWireAreApart();
        refusedCallsChangeNothing();
        Check.end();
    }

    private static byte[] name(int k) {
        return Bytes.unhex(NAMES[k]);
    }

    private static ObjectDepot run() {
        ObjectDepot x = new ObjectDepot();
        run(x);
        return x;
    }

    /** The objects above, in their order; reference 0 holds the third commit. */
    private static void run(ObjectDepot x) {
        for (int k = FOX; k <= RUNS; k++) {
            Bytes.blob(x, Model.text(CONTENTS[k]));
        }
        x.entry(0, FOX);
        x.entry(1, CAT);
        x.tree();
        // Not in the order of their letters.
        x.entry(25, RUNS);
        x.entry(0, FOX);
        x.entry(12, INNER);
        x.entry(1, CAT);
        x.tree();
        x.commit(INNER, -1, -1, 0);
        x.commit(OUTER, FIRST, -1, 10);
        x.commit(OUTER, SECOND, FIRST, 999);
        x.move(0, -1, THIRD);
    }

    /** "BYTES are 0 .. 255". */
    private static void bytesAre0To255() {
        ObjectDepot x = new ObjectDepot();
        for (int b = 0; b < 256; b++) {
            x.put(1, b);
            Check.yes("feed " + b, x.feed(1, b));
            if (b % 48 == 47 || b == 255) {
                Check.same("the blob of bytes up to " + b, x.blob(), b / 48);
            }
        }
        for (int b = 0; b < 256; b++) {
            Check.same("byte " + b + " in a blob", x.content(b / 48, b % 48), b);
            Check.same("byte " + b + " on the wire", x.wire(b), b);
        }
    }

    /** "OBJECTS are held at the NUMBERS 0 .. 23". */
    private static void numbersAre0To23() {
        ObjectDepot x = run();
        for (int k = THIRD + 1; k < 24; k++) {
            Check.same("object " + k, Bytes.blob(x, "object " + k), k);
        }
        Check.same("a 25th blob", Bytes.blob(x, "one more"), FULL);
        Check.same("a 25th tree", x.tree(), FULL);
        Check.same("a 25th commit", x.commit(INNER, -1, -1, 25), FULL);
        Check.same("all are there", Bytes.count(x), 24);
        Check.same("none behind them", x.object(24, 0), NONE);
    }

    /** Objects 1, 3 and 5 are free, and 6 and all behind it. */
    private static void withGaps(ObjectDepot x) {
        x.tree();
        Bytes.blob(x, "lost 1");
        x.commit(0, -1, -1, 2);
        Bytes.blob(x, "lost 3");
        x.commit(0, 2, -1, 4);
        Bytes.blob(x, "lost 5");
        x.move(3, -1, 4);
        x.clean();
    }

    /** "a new one gets the least number that is free", whichever call makes it. */
    private static void eachWayTakesTheLeastNumber() {
        byte[] pack = Bytes.pack(Bytes.whole(3, Bytes.of("one")), Bytes.whole(3, Bytes.of("two")));
        ObjectDepot x = Edge.taken("a blob", TermsTest::withGaps, y -> Bytes.blob(y, "new"), 1);
        Check.same("a commit next", x.commit(0, -1, -1, 7), 3);
        x.entry(0, 1);
        Check.same("a tree next", x.tree(), 5);
        Check.same("a pack next", Bytes.takeIn(x, pack), 2);
        Check.same("its first member", x.object(6, 1), 3);
        Check.same("its second member", x.content(7, 0), 't');
        x = Edge.taken("a pack", TermsTest::withGaps, y -> Bytes.takeIn(y, pack), 2);
        Check.same("its first member", x.content(1, 0), 'o');
        Check.same("its second member", x.content(3, 0), 't');
        Check.same("a blob next", x.blob(), 5);
    }

    /** "The CONTENTS are"; "The NAME of an object is the SHA-1 of". */
    private static void contentsAndNames() {
        ObjectDepot x = run();
        for (int k = FOX; k <= THIRD; k++) {
            Check.same("object " + k + ": kind", x.object(k, 0), KINDS[k]);
            Check.yes("object " + k + ": content", Bytes.same(Bytes.contentOf(x, k), CONTENTS[k]));
            Check.yes("object " + k + ": name", Bytes.hex(Bytes.nameOf(x, k)).equals(NAMES[k]));
        }
        Check.same("all are reached", x.clean(), 0);
        Check.yes("the empty blob's name",
            Bytes.hex(Bytes.nameOf(x, x.blob())).equals("e69de29bb2d1d6434b8b29ae775ad8c2e48c5391"));
        Check.yes("the empty tree's name",
            Bytes.hex(Bytes.nameOf(x, x.tree())).equals("4b825dc642cb6eb9a060e54bf8d69288fbee4904"));
    }

    /** "the number of bytes of its content in decimal digits": one, two or three of them. */
    private static void namesOfEachLength() {
        for (int length = 0; length <= 48; length++) {
            ObjectDepot x = new ObjectDepot();
            nameIsRight("a blob", x, Bytes.blob(x, "~".repeat(length)), length);
        }
        for (int entries = 0; entries <= 4; entries++) {
            ObjectDepot x = new ObjectDepot();
            int text = x.blob();
            int empty = x.tree();
            for (int i = 0; i < entries; i++) {
                x.entry(5 * i, i % 2 == 0 ? text : empty);
            }
            nameIsRight("a tree", x, x.tree(), 57 * (entries / 2) + 29 * (entries % 2));
        }
        for (int parents = 0; parents <= 2; parents++) {
            ObjectDepot x = new ObjectDepot();
            x.tree();
            int first = x.commit(0, -1, -1, 1);
            for (int number : new int[] {9, 99, 999}) {
                int k = x.commit(0, parents == 0 ? -1 : first, parents < 2 ? -1 : first, number);
                nameIsRight("a commit", x, k, 48 + 48 * parents + ("" + number).length());
            }
        }
    }

    private static void nameIsRight(String what, ObjectDepot x, int k, int length) {
        Check.same(what + " of " + length + ": bytes", x.object(k, 1), length);
        byte[] due = Bytes.name(x.object(k, 0), Bytes.contentOf(x, k));
        Check.yes(what + " of " + length + ": name", Bytes.same(Bytes.nameOf(x, k), due));
    }

    /** "its kind's word": the same bytes as a blob and as a tree are two objects. */
    private static void kindsHaveNamesOfTheirOwn() {
        ObjectDepot x = new ObjectDepot();
        Check.same("an empty blob", x.blob(), 0);
        Check.same("an empty tree", x.tree(), 1);
        x.entry(0, 0);
        Check.same("a tree", x.tree(), 2);
        Check.same("a blob of the same bytes", Bytes.blob(x, Model.text(Bytes.contentOf(x, 2))), 3);
        Check.no("their names are the same", Bytes.same(Bytes.nameOf(x, 2), Bytes.nameOf(x, 3)));
        Check.same("the tree reaches what it names", x.object(2, 7), 2);
        Check.same("the blob names nothing", x.object(3, 7), 1);
    }

    /** "It REACHES itself, what it names, and what that reaches". */
    private static void objectsNameAndReach() {
        ObjectDepot x = run();
        // Of each object those that it reaches, by hand.
        String[] reached = {"0", "1", "2", "013", "01234", "0135", "0123456", "01234567"};
        for (int a = FOX; a <= THIRD; a++) {
            Check.same("how many " + a + " reaches", x.object(a, 7), reached[a].length());
            for (int b = FOX; b <= THIRD; b++) {
                Check.same(a + " reaches " + b, x.reaches(a, b) ? 1 : 0, reached[a].indexOf('0' + b) >= 0 ? 1 : 0);
            }
        }
    }

    /** "To STORE a content: if there is an object with the same NAME, that is the one". */
    private static void storedOnlyOnce() {
        ObjectDepot x = run();
        Check.same("the same blob", Bytes.blob(x, "the quick brown cat"), CAT);
        x.entry(1, CAT);
        x.entry(0, FOX);
        Check.same("the same tree, listed in another order", x.tree(), INNER);
        Check.same("the same commit", x.commit(OUTER, FIRST, -1, 10), SECOND);
        Check.same("the same commit, with its parent as the other one", x.commit(OUTER, -1, FIRST, 10), SECOND);
        Check.same("the parents the other way round", x.commit(OUTER, FIRST, SECOND, 999), THIRD + 1);
        x.pack(5);
        Check.same("the same members", x.unpack(), 0);
        Check.same("no more objects", Bytes.count(x), THIRD + 2);
    }

    /** "REFERENCES 0 .. 3 each hold a commit or nothing, at first nothing". */
    private static void referencesHoldCommitsOrNothing() {
        ObjectDepot x = new ObjectDepot();
        for (int r = 0; r < 4; r++) {
            Check.same("at first reference " + r, x.reference(r), NONE);
        }
        x = run();
        int[] held = {THIRD, FIRST, -1, SECOND};
        x.move(1, -1, FIRST);
        x.move(3, -1, SECOND);
        for (int k = FOX; k <= OUTER; k++) {
            Check.no("a reference to object " + k, x.move(2, -1, k));
        }
        for (int r = 0; r < 4; r++) {
            Check.same("reference " + r, x.reference(r), held[r]);
        }
        Check.yes("to nothing", x.move(1, FIRST, -1));
        Check.same("it holds nothing", x.reference(1), NONE);
    }

    /** "Each move is noted (also one to what was held before) in one row, the HISTORY, which keeps the latest 16". */
    private static void historyIsOneRow() {
        ObjectDepot x = run();
        for (int i = 0; i < 40; i++) {
            int r = i % 4;
            int to = i % 3 == 0 ? x.reference(r) : i % 3 == 1 ? FIRST + i % 2 : -1;
            Check.yes("move " + i, x.move(r, x.reference(r), to));
        }
        for (int k = 0; k < 16; k++) {
            Check.same("the reference of move " + k, x.history(k, 0), (39 - k) % 4);
        }
        Check.same("a 17th", x.history(16, 0), NONE);
        int first = (int) Long.parseLong(NAMES[FIRST].substring(0, 8), 16);
        x.move(0, x.reference(0), -1);
        x.move(0, -1, FIRST);
        x.move(0, FIRST, FIRST);
        x.move(0, FIRST, -1);
        int[] words = {first, 0, first, first, 0, first};
        for (int k = 0; k < 3; k++) {
            Check.same("before move " + k, x.history(k, 1), words[2 * k]);
            Check.same("then, at move " + k, x.history(k, 2), words[2 * k + 1]);
        }
    }

    /** "CLEANING takes all objects out that no reference reaches"; "All that an object names is in the store". */
    private static void cleaningKeepsWhatIsNamed() {
        ObjectDepot x = run();
        x.move(1, -1, FIRST);
        x.move(0, THIRD, -1);
        Check.same("taken out", x.clean(), 4);
        for (int k = FOX; k <= THIRD; k++) {
            boolean stays = k == FOX || k == CAT || k == INNER || k == FIRST;
            Check.same("object " + k, x.object(k, 0), stays ? KINDS[k] : NONE);
        }
        Check.same("taken out then", x.clean(), 0);
        x.move(1, FIRST, -1);
        Check.same("the rest", x.clean(), 4);
        Check.same("none is left", Bytes.count(x), 0);
    }

    private static byte[] whole(int k) {
        return Bytes.of(KINDS[k], CONTENTS[k].length, CONTENTS[k]);
    }

    /** The pack of the run with depth 0, 1, or 2 and more, with its last 4 bytes written out. */
    private static byte[] packOf(int depth) {
        if (depth == 0) {
            return Bytes.of(80, 8, whole(FOX), whole(CAT), whole(RUNS), whole(INNER), whole(OUTER),
                whole(FIRST), whole(SECOND), whole(THIRD), 0x56, 0x05, 0xc3, 0x45);
        }
        byte[] runs = depth == 1
            ? Bytes.of(4, 22, 2, 15, 138, 0, 12, "red cat runs")
            : Bytes.of(4, 22, 1, 14, 138, 0, 3, "red", 132, 15, 5, " runs");
        return Bytes.of(80, 8,
            3, 19, "the quick brown fox",
            4, 19, 1, 6, 144, 0, 3, "cat",
            runs,
            whole(INNER),
            4, 115, 1, 56, 186, 0, 28, "40000 m", 0, name(INNER), 135, 0, 22, "z", 0, name(RUNS),
            whole(FIRST),
            whole(SECOND),
            4, 147, 1, 50, 181, 0, 40, NAMES[SECOND], 178, 45, 4, "999\n",
            depth == 1 ? Bytes.of(0x00, 0xc4, 0xd4, 0x66) : Bytes.of(0x92, 0xc0, 0x58, 0xbe));
    }

    /** "A DELTA .. is MADE so"; "A PACK is"; "WRITING a pack of references with a DEPTH". */
    private static void packsAreWritten() {
        ObjectDepot x = run();
        for (int depth = 0; depth <= 5; depth++) {
            Check.same("depth " + depth + ": members", x.pack(depth), 8);
            Check.yes("depth " + depth + ": the wire", Bytes.same(Bytes.wireOf(x), packOf(depth)));
        }
    }

    /** "TAKING IN a pack": "all members are STORED, in their order". */
    private static void packsAreTakenIn() {
        for (int depth = 0; depth <= 2; depth++) {
            ObjectDepot x = new ObjectDepot();
            Check.same("depth " + depth + ": new ones", Bytes.takeIn(x, packOf(depth)), 8);
            Check.yes("depth " + depth + ": it stays", Bytes.same(Bytes.wireOf(x), packOf(depth)));
            for (int k = FOX; k <= THIRD; k++) {
                Check.same("depth " + depth + ": kind of " + k, x.object(k, 0), KINDS[k]);
                Check.yes("depth " + depth + ": content of " + k, Bytes.same(Bytes.contentOf(x, k), CONTENTS[k]));
                Check.yes("depth " + depth + ": name of " + k, Bytes.same(Bytes.nameOf(x, k), name(k)));
            }
            Check.same("depth " + depth + ": what the last one reaches", x.object(THIRD, 7), 8);
            Check.same("depth " + depth + ": no reference holds one", x.clean(), 8);
        }
        // "or 5 (a delta from an object that is named)": of the store, and of a member before it.
        ObjectDepot x = run();
        byte[] dog = Bytes.of(3, 20, "the quick brown dog!");
        byte[] pack = Bytes.pack(Bytes.of(5, 21, name(CAT), 8, 144, 0, 5, "lion."), dog,
            Bytes.of(5, 5, Bytes.name(3, Bytes.of("the quick brown dog!")), 2, 133, 15));
        Check.same("named ones: new", Bytes.takeIn(x, pack), 3);
        Check.yes("from the store", Model.text(Bytes.contentOf(x, 8)).equals("the quick brown lion."));
        Check.yes("from a member", Model.text(Bytes.contentOf(x, 10)).equals(" dog!"));
    }

    /** "THE BUFFER .. at most 48 bytes, THE LIST .. at most 4 entries .., THE WIRE .. at most 600 bytes". */
    private static void bufferListAndWireAreApart() {
        ObjectDepot x = run();
        for (int i = 0; i < 600; i++) {
            Check.same("byte " + i + " of the buffer", x.put(1, i) ? 1 : 0, i < 48 ? 1 : 0);
            Check.yes("byte " + i + " of the wire", x.feed(1, i / 3));
        }
        Check.no("byte 600 of the wire", x.feed(1, 0));
        for (int letter = 25; letter >= 0; letter--) {
            Check.same("letter " + letter, x.entry(letter, RUNS) ? 1 : 0, letter > 21 ? 1 : 0);
        }
        Check.same("the blob", x.object(x.blob(), 1), 48);
        Check.same("the tree", x.object(x.tree(), 1), 4 * 29);
        Check.same("the wire", x.wire(-1), 600);
        x.clear();
        Check.same("the wire is not cleared", x.wire(-1), 600);
        Check.same("its last byte", x.wire(599), 599 / 3);
    }

    /** No number is free, and there is something in each row. */
    private static void fullStore(ObjectDepot x) {
        run(x);
        for (int k = THIRD + 1; k < 24; k++) {
            Bytes.blob(x, "object " + k);
        }
        x.put(3, 0x616263);
        x.entry(3, OUTER);
        x.entry(2, CAT);
        x.pack(5);
    }

    private static void refused(String what, Function<ObjectDepot, Object> call, Object due) {
        Edge.refused(what, TermsTest::fullStore, call, due);
    }

    /** "A call that answers one of the constants below or false changes nothing". */
    private static void refusedCallsChangeNothing() {
        refused("put", x -> x.put(9, 1), false);
        refused("blob", ObjectDepot::blob, FULL);
        refused("entry", x -> x.entry(3, CAT), false);
        refused("tree", ObjectDepot::tree, FULL);
        refused("commit", x -> x.commit(OUTER, OUTER, -1, 1), NONE);
        refused("one commit more", x -> x.commit(OUTER, THIRD, -1, 1), FULL);
        refused("move", x -> x.move(0, SECOND, FIRST), false);
        refused("reference", x -> x.reference(1), NONE);
        refused("history", x -> x.history(1, 0), NONE);
        refused("object", x -> x.object(24, 0), NONE);
        refused("content", x -> x.content(FOX, 19), NONE);
        refused("find", x -> x.find(1, 2, 3, 4, 5), NONE);
        refused("reaches", x -> x.reaches(FIRST, SECOND), false);
        refused("pack", x -> x.pack(6), NONE);
        refused("feed", x -> x.feed(0, 1), false);
        refused("alter", x -> x.alter(0, 256), false);
        refused("wire", x -> x.wire(600), NONE);
        unpackRefuses(ObjectDepot.BROKEN, Bytes.of(80, 1, 3, 0, 1, 2, 3, 4));
        unpackRefuses(ObjectDepot.LACKING, Bytes.pack(Bytes.of(2, 29, "100644 a", 0, new byte[20])));
        unpackRefuses(FULL, Bytes.pack(Bytes.of(3, 3, "new")));
    }

    private static void unpackRefuses(int due, byte[] wire) {
        Edge.refused("unpack", x -> {
            fullStore(x);
            Bytes.setWire(x, wire);
        }, ObjectDepot::unpack, due);
    }
}
