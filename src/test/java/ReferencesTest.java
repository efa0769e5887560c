/** Promises 8 to 11 and 15: references, the history, cleaning and reaching. */
public final class ReferencesTest {
    private static final int NONE = ObjectDepot.NONE;

    public static void main(String[] args) {
        moveNeedsWhatIsHeld();
        moveRefuses();
        historyNotesMoves();
        historyKeepsSixteen();
        historyRefuses();
        cleanKeepsWhatIsReached();
        cleanFreesLeastNumbers();
        reachesGoesAllTheWay();
        longChainIsReached();
        Check.end();
    }

    /** Objects 0: a blob, 1: a tree of it, 2: a commit, 3: a commit with 2 as parent. */
    private static ObjectDepot four() {
        ObjectDepot x = new ObjectDepot();
        Bytes.blob(x, "b");
        x.entry(0, 0);
        x.tree();
        x.commit(1, -1, -1, 1);
        x.commit(1, 2, -1, 2);
        return x;
    }

    private static void moveNeedsWhatIsHeld() {
        ObjectDepot x = four();
        Check.yes("from nothing", x.move(0, -1, 2));
        Check.same("held", x.reference(0), 2);
        Check.no("not nothing any more", x.move(0, -1, 3));
        Check.no("not that", x.move(0, 3, 3));
        Check.same("still held", x.reference(0), 2);
        Check.yes("from what is held", x.move(0, 2, 3));
        Check.same("held then", x.reference(0), 3);
        Check.yes("to the same", x.move(0, 3, 3));
        Check.yes("to nothing", x.move(0, 3, -1));
        Check.same("nothing held", x.reference(0), NONE);
        Check.yes("nothing to nothing", x.move(0, -1, -1));
        Check.same("still nothing", x.reference(0), NONE);
        for (int r = 0; r < 4; r++) {
            Check.yes("reference " + r, x.move(r, -1, 2 + r % 2));
        }
        for (int r = 0; r < 4; r++) {
            Check.same("each holds its own " + r, x.reference(r), 2 + r % 2);
        }
    }

    private static void moveRefuses() {
        ObjectDepot x = four();
        for (int r : new int[] {-1, 4, Integer.MIN_VALUE, Integer.MAX_VALUE}) {
            Check.no("reference " + r, x.move(r, -1, 2));
            Check.same("reference " + r, x.reference(r), NONE);
        }
        for (int k : new int[] {0, 1, 4, 24, -2, Integer.MIN_VALUE, Integer.MAX_VALUE}) {
            Check.no("to " + k, x.move(1, -1, k));
            Check.no("from " + k, x.move(1, k, 2));
        }
        Check.same("nothing was noted", x.history(0, 0), NONE);
        Check.same("nothing is held", x.reference(1), NONE);
    }

    private static void noteIs(ObjectDepot x, int k, int r, int before, int then) {
        Check.same("history(" + k + ", 0)", x.history(k, 0), r);
        Check.same("history(" + k + ", 1)", x.history(k, 1), before);
        Check.same("history(" + k + ", 2)", x.history(k, 2), then);
    }

    private static void historyNotesMoves() {
        ObjectDepot x = four();
        int a = x.object(2, 2);
        int b = x.object(3, 2);
        x.move(1, -1, 2);
        noteIs(x, 0, 1, 0, a);
        x.move(3, -1, -1);
        noteIs(x, 0, 3, 0, 0);
        noteIs(x, 1, 1, 0, a);
        x.move(1, 2, 3);
        x.move(1, 3, 3);
        x.move(1, 3, -1);
        noteIs(x, 0, 1, b, 0);
        noteIs(x, 1, 1, b, b);
        noteIs(x, 2, 1, a, b);
        noteIs(x, 3, 3, 0, 0);
        Check.same("all are gone", x.clean(), 4);
        noteIs(x, 2, 1, a, b);
        noteIs(x, 4, 1, 0, a);
        Check.same("no more", x.history(5, 0), NONE);
    }

    private static void historyKeepsSixteen() {
        ObjectDepot x = four();
        int a = x.object(2, 2);
        for (int i = 0; i < 20; i++) {
            x.move(i % 4, -1, 2);
            x.move(i % 4, 2, -1);
        }
        for (int k = 0; k < 16; k++) {
            noteIs(x, k, (39 - k) / 2 % 4, k % 2 == 0 ? a : 0, k % 2 == 0 ? 0 : a);
        }
        Check.same("a 17th", x.history(16, 0), NONE);
        x.move(2, 3, -1);
        Check.same("a refused move is not noted", x.history(0, 0), 3);
    }

    private static void historyRefuses() {
        ObjectDepot x = four();
        x.move(0, -1, 2);
        for (int k : new int[] {-1, 1, 15, Integer.MIN_VALUE, Integer.MAX_VALUE}) {
            Check.same("history(" + k + ", 0)", x.history(k, 0), NONE);
        }
        for (int w : new int[] {-1, 3, Integer.MIN_VALUE, Integer.MAX_VALUE}) {
            Check.same("history(0, " + w + ")", x.history(0, w), NONE);
        }
    }

    private static void cleanKeepsWhatIsReached() {
        ObjectDepot x = four();
        Bytes.blob(x, "lost");
        x.entry(0, 4);
        x.tree();
        x.commit(5, 3, -1, 9);
        x.move(2, -1, 3);
        Check.same("three are not reached", x.clean(), 3);
        for (int k = 0; k < 4; k++) {
            Check.yes("kept " + k, x.object(k, 0) != NONE);
        }
        Check.same("the rest is gone", Bytes.count(x), 4);
        Check.same("nothing more", x.clean(), 0);
        x.move(0, -1, 2);
        x.move(2, 3, -1);
        Check.same("one reference is left", x.clean(), 1);
        Check.same("its commit stays", x.object(2, 7), 3);
        x.move(0, 2, -1);
        Check.same("no reference is left", x.clean(), 3);
        Check.same("no object is left", Bytes.count(x), 0);
    }

    private static void cleanFreesLeastNumbers() {
        ObjectDepot x = new ObjectDepot();
        Bytes.blob(x, "lost");
        x.tree();
        Bytes.blob(x, "lost, too");
        x.commit(1, -1, -1, 0);
        x.move(0, -1, 3);
        Check.same("two go", x.clean(), 2);
        Check.same("first free", Bytes.blob(x, "x"), 0);
        Check.same("next free", Bytes.blob(x, "y"), 2);
        Check.same("behind all", Bytes.blob(x, "z"), 4);
        Check.same("a tree where a blob was", x.object(0, 0), Bytes.BLOB);
    }

    private static void reachesGoesAllTheWay() {
        ObjectDepot x = four();
        int merge = x.commit(x.tree(), 2, 3, 3);
        boolean[][] due = {
            {true, false, false, false, false, false},
            {true, true, false, false, false, false},
            {true, true, true, false, false, false},
            {true, true, true, true, false, false},
            {false, false, false, false, true, false},
            {true, true, true, true, true, true}};
        Check.same("the merge", merge, 5);
        for (int a = 0; a < 6; a++) {
            for (int b = 0; b < 6; b++) {
                Check.same("reaches(" + a + ", " + b + ")", x.reaches(a, b) ? 1 : 0, due[a][b] ? 1 : 0);
            }
        }
        for (int k : new int[] {-1, 6, 24, 32, Integer.MIN_VALUE, Integer.MAX_VALUE}) {
            Check.no("reaches from " + k, x.reaches(k, 0));
            Check.no("reaches to " + k, x.reaches(5, k));
            Check.no("reaches itself " + k, x.reaches(k, k));
        }
    }

    private static void longChainIsReached() {
        ObjectDepot x = new ObjectDepot();
        x.tree();
        int last = -1;
        for (int i = 0; i < 23; i++) {
            last = x.commit(0, last, -1, i);
        }
        Check.same("the last of 23 commits", last, 23);
        Check.same("it reaches all", x.object(last, 7), 24);
        Check.yes("the first one, too", x.reaches(last, 1));
        x.move(0, -1, 12);
        Check.same("those behind it go", x.clean(), 11);
        Check.same("those before it stay", x.object(12, 7), 13);
    }
}
