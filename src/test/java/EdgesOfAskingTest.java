import java.util.function.Consumer;

/** The edges that the document names in Promises 8 to 15: a test for each sentence. */
public final class EdgesOfAskingTest {
    private static final int NONE = ObjectDepot.NONE;
    private static final int A = Setups.FIRST_COMMIT;
    private static final int B = Setups.COMMIT;
    private static final int[] FAR = {Integer.MIN_VALUE, -256, -2, 32, 256, 1 << 16, Integer.MAX_VALUE};

    public static void main(String[] args) {
        moveTakesReferences0To3();
        moveTakesFromWhatIsHeld();
        moveTakesToCommits();
        moveFromNothingToNothing();
        referenceTells();
        historyTellsMoves();
        historyTellsThreeWords();
        historyKeepsLatest16();
        historyNotesEachMove();
        historyOutlivesObjects();
        cleanOfNothing();
        cleanOfAll();
        cleanKeepsWhatReferencesReach();
        cleanKeepsRowsAndMoves();
        objectTellsOf0To23();
        objectTellsWords0To7();
        wordsMayBeNone();
        contentTellsBytes();
        contentOfLongestAndEmpty();
        findNeedsAllWords();
        findNone();
        reachesItself();
        reachesOverAll();
        reachesNone();
        call512();
        Check.end();
    }

    /** "false if r is no reference" ("REFERENCES 0 .. 3"). */
    private static void moveTakesReferences0To3() {
        for (int r : new int[] {0, 2, 3}) {
            ObjectDepot x = Edge.taken("reference " + r, Setups::mixed, y -> y.move(r, -1, A), true);
            Check.same("it holds that", x.reference(r), A);
            Check.same("the other one stays", x.reference(1), B);
        }
        Edge.refused("reference -1", Setups::mixed, x -> x.move(-1, -1, A), false);
        Edge.refused("reference 4", Setups::mixed, x -> x.move(4, -1, A), false);
        Edge.refused("reference 4 to nothing", Setups::mixed, x -> x.move(4, -1, -1), false);
        for (int r : FAR) {
            Edge.refused("reference " + r, Setups::mixed, x -> x.move(r, -1, A), false);
            Edge.refused("reference " + (r + 1), Setups::mixed, x -> x.move(r + 1, B, A), false);
        }
    }

    /** "if it holds from (nothing, if that is -1)"; "false if .. it does not hold that". */
    private static void moveTakesFromWhatIsHeld() {
        ObjectDepot x = Edge.taken("from what is held", Setups::mixed, y -> y.move(1, B, A), true);
        Check.same("held then", x.reference(1), A);
        x = Edge.taken("to the same", Setups::mixed, y -> y.move(1, B, B), true);
        Check.same("held still", x.reference(1), B);
        Edge.refused("from nothing", Setups::mixed, y -> y.move(1, -1, A), false);
        Edge.refused("from another one", Setups::mixed, y -> y.move(1, A, A), false);
        Edge.refused("from another one to what is held", Setups::mixed, y -> y.move(1, A, B), false);
        Edge.refused("from a commit, but it holds nothing", Setups::mixed, y -> y.move(0, B, A), false);
        Edge.refused("from what is no object, but it holds nothing", Setups::mixed, y -> y.move(0, 23, A), false);
        Edge.refused("from -2, but it holds nothing", Setups::mixed, y -> y.move(0, -2, A), false);
        for (int from : FAR) {
            Edge.refused("from " + from, Setups::mixed, y -> y.move(0, from, A), false);
            Edge.refused("from " + from, Setups::mixed, y -> y.move(1, from, A), false);
        }
    }

    /** "holds to (nothing, if that is -1)"; "false if .. to is not -1 and no commit". */
    private static void moveTakesToCommits() {
        ObjectDepot x = Edge.taken("to nothing", Setups::mixed, y -> y.move(1, B, -1), true);
        Check.same("nothing then", x.reference(1), NONE);
        x = Edge.taken("to the last number", y -> {
            Setups.mixed(y, 23);
            y.commit(Setups.TREE, -1, -1, 9);
        }, y -> y.move(1, B, 23), true);
        Check.same("the last one then", x.reference(1), 23);
        for (int to : new int[] {Setups.BLOB, Setups.TREE, Setups.OBJECTS, 23, 24}) {
            Edge.refused("to " + to, Setups::mixed, y -> y.move(1, B, to), false);
        }
        for (int to : FAR) {
            Edge.refused("to " + to, Setups::mixed, y -> y.move(1, B, to), false);
            Edge.refused("from nothing to " + to, Setups::mixed, y -> y.move(0, -1, to), false);
        }
        Edge.refused("to what is gone", y -> {
            Setups.mixed(y);
            y.move(1, B, A);
            y.clean();
        }, y -> y.move(0, -1, B), false);
    }

    /** "Each move is noted (also one to what was held before)". */
    private static void moveFromNothingToNothing() {
        ObjectDepot x = Edge.taken("nothing to nothing", Setups::mixed, y -> y.move(3, -1, -1), true);
        Check.same("nothing still", x.reference(3), NONE);
        noteIs(x, 0, 3, 0, 0);
        x = Edge.taken("to the same", Setups::mixed, y -> y.move(1, B, B), true);
        noteIs(x, 0, 1, x.object(B, 2), x.object(B, 2));
    }

    private static void noteIs(ObjectDepot x, int k, int... due) {
        for (int w = 0; w < 3; w++) {
            Check.same("history(" + k + ", " + w + ")", x.history(k, w), due[w]);
        }
    }

    /** "NONE if it holds nothing or there is none such". */
    private static void referenceTells() {
        Consumer<ObjectDepot> first = x -> {
            Setups.mixed(x);
            x.move(0, -1, A);
            x.move(3, -1, B);
        };
        Edge.taken("reference 0", first, x -> x.reference(0), A);
        Edge.taken("reference 3", first, x -> x.reference(3), B);
        Edge.refused("one that holds nothing", first, x -> x.reference(2), NONE);
        Edge.refused("reference -1", first, x -> x.reference(-1), NONE);
        Edge.refused("reference 4", first, x -> x.reference(4), NONE);
        for (int r : FAR) {
            Edge.refused("reference " + r, first, x -> x.reference(r), NONE);
        }
        ObjectDepot zero = new ObjectDepot();
        Bytes.takeIn(zero, Bytes.pack(Bytes.whole(Bytes.COMMIT, Bytes.commit(1, Bytes.name(Bytes.TREE, new byte[0]))),
            Bytes.whole(Bytes.TREE, new byte[0])));
        Check.yes("to the commit at number 0", zero.move(0, -1, 0));
        Check.same("object 0 is not nothing", zero.reference(0), 0);
        Check.no("nothing is not object 0", zero.move(1, 0, 0));
        Check.same("its tree is reached", zero.clean(), 0);
    }

    /** "Of the k-th latest move in the history (0 is the latest)"; "NONE if there is no such move". */
    private static void historyTellsMoves() {
        ObjectDepot x = new ObjectDepot();
        Setups.mixed(x);
        noteIs(x, 0, 1, x.object(A, 2), x.object(B, 2));
        noteIs(x, 1, 1, 0, x.object(A, 2));
        for (int w = 0; w <= 2; w++) {
            int word = w;
            Edge.refused("move -1", Setups::mixed, y -> y.history(-1, word), NONE);
            Edge.refused("move 2 of two", Setups::mixed, y -> y.history(2, word), NONE);
            Edge.refused("move 0 of none", y -> y.tree(), y -> y.history(0, word), NONE);
            for (int k : FAR) {
                Edge.refused("move " + k, Setups::mixed, y -> y.history(k, word), NONE);
            }
        }
    }

    /** "NONE if there is no such .. w" (0, 1, 2). */
    private static void historyTellsThreeWords() {
        for (int k = 0; k <= 1; k++) {
            int move = k;
            Edge.refused("word -1", Setups::mixed, y -> y.history(move, -1), NONE);
            Edge.refused("word 3", Setups::mixed, y -> y.history(move, 3), NONE);
            for (int w : FAR) {
                Edge.refused("word " + w, Setups::mixed, y -> y.history(move, w), NONE);
            }
        }
    }

    /** "THE HISTORY, which keeps the latest 16". */
    private static void historyKeepsLatest16() {
        ObjectDepot x = new ObjectDepot();
        Setups.objects(x);
        int a = x.object(A, 2);
        int b = x.object(B, 2);
        int moves = 2;
        for (int i = 0; i < 60; i++) {
            Check.yes("a move", x.move(1, i % 2 == 0 ? B : A, i % 2 == 0 ? A : B));
            moves++;
            int kept = Math.min(moves, 16);
            noteIs(x, 0, 1, i % 2 == 0 ? b : a, i % 2 == 0 ? a : b);
            Check.same("the oldest of " + moves, x.history(kept - 1, 0), 1);
            Check.same("what it held before", x.history(kept - 1, 1), moves <= 16 ? 0 : moves % 2 == 0 ? b : a);
            Check.same("what it held then", x.history(kept - 1, 2), moves <= 16 ? a : moves % 2 == 0 ? a : b);
            Check.same("one older than the oldest of " + moves, x.history(kept, 0), NONE);
        }
        for (int i = 0; i < 16; i++) {
            x.move(i % 4, x.reference(i % 4), -1);
        }
        for (int k = 0; k < 16; k++) {
            Check.same("each reference's move " + k, x.history(k, 0), (15 - k) % 4);
        }
        Check.same("the seventeenth", x.history(16, 0), NONE);
    }

    /** A refused move is none. */
    private static void historyNotesEachMove() {
        Consumer<ObjectDepot> sixteen = x -> {
            Setups.mixed(x);
            for (int i = 0; i < 14; i++) {
                x.move(i % 4, x.reference(i % 4), i % 3 == 0 ? -1 : A);
            }
        };
        ObjectDepot x = Edge.taken("sixteen moves", sixteen, y -> y.history(15, 0), 1);
        Check.same("the first of them", x.history(15, 1), 0);
        Edge.refused("a refused move behind sixteen", sixteen, y -> y.move(0, B, A), false);
        x = Edge.taken("a seventeenth", sixteen, y -> y.move(2, y.reference(2), B), true);
        Check.same("now the second is the oldest", x.history(15, 1), x.object(A, 2));
    }

    /** The words are "of the NAME of what it held before and then", which may be gone. */
    private static void historyOutlivesObjects() {
        ObjectDepot x = new ObjectDepot();
        Setups.mixed(x);
        int a = x.object(A, 2);
        int b = x.object(B, 2);
        x.move(1, B, -1);
        Check.same("all go", x.clean(), Setups.OBJECTS);
        noteIs(x, 0, 1, b, 0);
        noteIs(x, 1, 1, a, b);
        x.clear();
        x.blob();
        x.tree();
        noteIs(x, 1, 1, a, b);
        noteIs(x, 2, 1, 0, a);
    }

    /** "how many objects were taken out": none. */
    private static void cleanOfNothing() {
        Edge.changesNothing("clean without objects", x -> Setups.feed(x, 3), ObjectDepot::clean, 0);
        Edge.changesNothing("clean twice", x -> {
            Setups.mixed(x);
            x.clean();
        }, ObjectDepot::clean, 0);
    }

    /** "CLEANING takes all objects out that no reference reaches". */
    private static void cleanOfAll() {
        ObjectDepot x = Edge.taken("clean of 24", y -> {
            Setups.objects(y, 24);
            y.move(1, B, -1);
        }, ObjectDepot::clean, 24);
        Check.same("none is left", Bytes.count(x), 0);
        for (int k = 0; k < 24; k++) {
            Check.same("24 fit again", Bytes.blob(x, "new " + k), k);
        }
    }

    private static void cleanKeepsWhatReferencesReach() {
        for (int r = 0; r < 4; r++) {
            int holder = r;
            ObjectDepot x = Edge.taken("clean with reference " + r, y -> {
                Setups.objects(y, 24);
                y.move(1, B, -1);
                y.move(holder, -1, A);
            }, ObjectDepot::clean, 21);
            Check.same("what it reaches is left", x.object(A, 7), 3);
            Check.same("it still holds that", x.reference(r), A);
        }
        ObjectDepot x = new ObjectDepot();
        x.tree();
        int last = -1;
        for (int i = 0; i < 23; i++) {
            last = x.commit(0, last, -1, i);
        }
        x.move(0, -1, last);
        Check.same("all 24 are reached", x.clean(), 0);
        Check.same("all 24 are there", x.object(last, 7), 24);
    }

    private static void cleanKeepsRowsAndMoves() {
        ObjectDepot x = Edge.taken("clean", Setups::mixed, ObjectDepot::clean, 1);
        Check.same("the wire stays", x.wire(-1), 5);
        Check.same("the moves stay", x.history(1, 0), 1);
        Check.same("the references stay", x.reference(1), B);
        Check.same("the list stays", x.object(x.tree(), 1), 57);
        Check.same("the buffer stays", x.object(x.blob(), 1), 3);
    }

    /** "NONE if there is no such object" ("NUMBERS 0 .. 23"). */
    private static void objectTellsOf0To23() {
        Consumer<ObjectDepot> full = x -> Setups.mixed(x, 24);
        Edge.taken("object 0", full, x -> x.object(0, 0), Bytes.BLOB);
        Edge.taken("object 23", full, x -> x.object(23, 0), Bytes.BLOB);
        for (int w = 0; w <= 7; w++) {
            int word = w;
            Edge.refused("object -1", full, x -> x.object(-1, word), NONE);
            Edge.refused("object 24", full, x -> x.object(24, word), NONE);
            Edge.refused("a free number", x -> Setups.mixed(x, 23), x -> x.object(23, word), NONE);
            Edge.refused("one that is gone", x -> {
                Setups.mixed(x);
                x.clean();
            }, x -> x.object(Setups.LOST, word), NONE);
            for (int k : FAR) {
                Edge.refused("object " + k, full, x -> x.object(k, word), NONE);
            }
        }
    }

    /** "w = 0: its kind; 1: how many bytes its content has; 2 .. 6: the words; 7: how many objects it reaches". */
    private static void objectTellsWords0To7() {
        ObjectDepot x = new ObjectDepot();
        Setups.mixed(x);
        int[][] due = {{3, 1, 1}, {2, 29, 2}, {1, 49, 3}, {1, 97, 4}, {3, 4, 1}};
        for (int k = 0; k < due.length; k++) {
            Check.same("kind of " + k, x.object(k, 0), due[k][0]);
            Check.same("bytes of " + k, x.object(k, 1), due[k][1]);
            Check.same("reached by " + k, x.object(k, 7), due[k][2]);
            byte[] name = Bytes.name(due[k][0], Bytes.contentOf(x, k));
            for (int w = 2; w <= 6; w++) {
                Check.same("word " + w + " of " + k, x.object(k, w), Bytes.word(name, w - 2));
            }
            int number = k;
            Edge.refused("w -1", Setups::mixed, y -> y.object(number, -1), NONE);
            Edge.refused("w 8", Setups::mixed, y -> y.object(number, 8), NONE);
            for (int w : FAR) {
                Edge.refused("w " + w, Setups::mixed, y -> y.object(number, w), NONE);
            }
        }
    }

    /** "a word of a NAME can be -1, too": these blobs of 8 bytes were sought for it. */
    private static void wordsMayBeNone() {
        long[] bytes = {1362786761L, 1319728831L, 3566284990L};
        int[] words = {0, 1, 4};
        ObjectDepot x = new ObjectDepot();
        for (int k = 0; k < bytes.length; k++) {
            x.put(8, bytes[k]);
            Check.same("its number", x.blob(), k);
            Check.same("its word " + words[k], x.object(k, 2 + words[k]), -1);
            Check.yes("its name", Bytes.same(Bytes.nameOf(x, k), Bytes.name(Bytes.BLOB, Bytes.contentOf(x, k))));
            Check.same("it is found", x.find(x.object(k, 2), x.object(k, 3), x.object(k, 4), x.object(k, 5),
                x.object(k, 6)), k);
        }
    }

    /** "Byte i of the content of object k; NONE if there is none" (bytes 0 .. 255). */
    private static void contentTellsBytes() {
        Consumer<ObjectDepot> bytes = x -> {
            x.put(4, 0x00ff7f80);
            x.blob();
        };
        int[] due = {0, 255, 127, 128};
        for (int i = 0; i < 4; i++) {
            int place = i;
            Edge.taken("byte " + i, bytes, x -> x.content(0, place), due[i]);
        }
        Edge.refused("byte -1", bytes, x -> x.content(0, -1), NONE);
        Edge.refused("byte 4 of four", bytes, x -> x.content(0, 4), NONE);
        Edge.refused("a free number", bytes, x -> x.content(1, 0), NONE);
        Edge.refused("object -1", bytes, x -> x.content(-1, 0), NONE);
        Edge.refused("object 24", x -> Setups.mixed(x, 24), x -> x.content(24, 0), NONE);
        for (int far : FAR) {
            Edge.refused("byte " + far, bytes, x -> x.content(0, far), NONE);
            Edge.refused("object " + far, bytes, x -> x.content(far, 0), NONE);
        }
        Edge.refused("of one that is gone", x -> {
            Setups.mixed(x);
            x.clean();
        }, x -> x.content(Setups.LOST, 0), NONE);
    }

    private static void contentOfLongestAndEmpty() {
        Edge.refused("byte 0 of an empty blob", x -> x.blob(), x -> x.content(0, 0), NONE);
        Edge.refused("byte 0 of an empty tree", x -> x.tree(), x -> x.content(0, 0), NONE);
        Consumer<ObjectDepot> longest = x -> {
            Setups.mixed(x);
            x.commit(Setups.TREE, A, B, 999);
        };
        Edge.taken("the last byte of the longest commit", longest, x -> x.content(Setups.OBJECTS, 146), 10);
        Edge.refused("one behind it", longest, x -> x.content(Setups.OBJECTS, 147), NONE);
        // A shorter content where a longer one was.
        Edge.refused("behind the end, where there was one", x -> {
            Setups.put(x, 48);
            x.blob();
            x.clean();
            Bytes.blob(x, "abc");
        }, x -> x.content(0, 3), NONE);
    }

    private static int found(ObjectDepot x, ObjectDepot from, int k, int wrongWord) {
        int[] n = new int[5];
        for (int i = 0; i < 5; i++) {
            n[i] = from.object(k, 2 + i) ^ (i == wrongWord ? 1 << 31 : 0);
        }
        return x.find(n[0], n[1], n[2], n[3], n[4]);
    }

    /** "The number of the object whose NAME has these five words; NONE if there is none". */
    private static void findNeedsAllWords() {
        ObjectDepot whole = new ObjectDepot();
        Setups.mixed(whole, 24);
        for (int k = 0; k < 24; k++) {
            int number = k;
            Edge.taken("find " + k, x -> Setups.mixed(x, 24), x -> found(x, whole, number, -1), k);
            for (int i = 0; i < 5; i++) {
                int wrong = i;
                Edge.refused("find " + k + " with word " + i + " wrong", x -> Setups.mixed(x, 24),
                    x -> found(x, whole, number, wrong), NONE);
            }
        }
    }

    private static void findNone() {
        ObjectDepot whole = new ObjectDepot();
        Setups.mixed(whole, 24);
        Edge.refused("find in a new one", x -> Setups.feed(x, 1), x -> x.find(0, 0, 0, 0, 0), NONE);
        Edge.refused("find 0", Setups::mixed, x -> x.find(0, 0, 0, 0, 0), NONE);
        Edge.refused("find -1", Setups::mixed, x -> x.find(-1, -1, -1, -1, -1), NONE);
        Edge.refused("find what is gone", x -> {
            Setups.mixed(x);
            x.clean();
        }, x -> found(x, whole, Setups.LOST, -1), NONE);
        Edge.refused("find the buffer's blob, which is not stored", x -> {
            Setups.objects(x);
            x.put(7, Bytes.number(Bytes.of("lost 20"), 0, 7));
        }, x -> found(x, whole, 20, -1), NONE);
    }

    /** "It REACHES itself". */
    private static void reachesItself() {
        for (int k : new int[] {Setups.BLOB, Setups.TREE, A, B, Setups.LOST, 23}) {
            Edge.taken(k + " reaches itself", x -> Setups.mixed(x, 24), x -> x.reaches(k, k), true);
        }
        Edge.taken("a blob reaches itself alone", Setups::mixed, x -> x.object(Setups.BLOB, 7), 1);
    }

    /** "what it names, and what that reaches". */
    private static void reachesOverAll() {
        for (int a = 0; a < Setups.OBJECTS; a++) {
            for (int b = 0; b < Setups.OBJECTS; b++) {
                int from = a;
                int to = b;
                boolean due = a == b || a < Setups.LOST && b < a;
                Edge.changesNothing(a + " reaches " + b, Setups::mixed, x -> x.reaches(from, to), due);
            }
        }
        ObjectDepot x = new ObjectDepot();
        x.tree();
        int last = -1;
        for (int i = 0; i < 23; i++) {
            last = x.commit(0, last, -1, i);
        }
        for (int k = 0; k < 24; k++) {
            Check.yes("the last of 24 reaches " + k, x.reaches(23, k));
            Check.same("the first commit reaches " + k, x.reaches(1, k) ? 1 : 0, k <= 1 ? 1 : 0);
        }
    }

    /** "false if one of them is none". */
    private static void reachesNone() {
        for (int none : new int[] {-1, Setups.OBJECTS, 23, 24, Integer.MIN_VALUE, -2, 32, 35, Integer.MAX_VALUE}) {
            Edge.refused("from " + none, Setups::mixed, x -> x.reaches(none, Setups.BLOB), false);
            Edge.refused("to " + none, Setups::mixed, x -> x.reaches(B, none), false);
            Edge.refused("itself " + none, Setups::mixed, x -> x.reaches(none, none), false);
        }
        Edge.refused("one that is gone", x -> {
            Setups.mixed(x);
            x.clean();
        }, x -> x.reaches(Setups.LOST, Setups.LOST), false);
    }

    /** "An object is used for at most 512 calls": the last of them still answers as due. */
    private static void call512() {
        ObjectDepot x = new ObjectDepot();
        x.tree();
        x.commit(0, -1, -1, 7);
        x.move(0, -1, 1);
        for (int call = 4; call <= 511; call++) {
            Check.yes("call " + call, x.move(0, 1, 1));
        }
        Check.same("call 512", x.pack(5), 2);
    }
}
