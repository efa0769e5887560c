import java.util.List;
import java.util.function.Consumer;
import java.util.function.Function;

/** One call at an edge of what the document takes: its answer, and that a refused one changed nothing. */
final class Edge {
    // The buffer and the list are seen only by what later calls make of them, which changes them: so each
    // of these goes on with an object of its own. Some clean first, as a full store stores nothing.
    private static final List<Function<ObjectDepot, String>> PROBES = List.of(
        x -> "",
        x -> "blob " + x.blob(),
        x -> "tree " + x.tree(),
        x -> "clean " + x.clean() + ", blob " + x.blob(),
        x -> "clean " + x.clean() + ", tree " + x.tree(),
        x -> "put " + putUntilFull(x) + ", clean " + x.clean() + ", blob " + x.blob(),
        x -> "entries " + entriesTaken(x) + ", clean " + x.clean() + ", tree " + x.tree(),
        x -> "feed " + feedUntilFull(x),
        x -> "unpack " + x.unpack(),
        x -> "pack " + x.pack(5));

    private Edge() {
    }

    /** The run, then the call, which is taken: the object as it is then, so that the test can look at it. */
    static ObjectDepot taken(String what, Consumer<ObjectDepot> run, Function<ObjectDepot, Object> call, Object due) {
        ObjectDepot x = new ObjectDepot();
        run.accept(x);
        answers(what, x, call, due);
        return x;
    }

    /** "A call that answers one of the constants below or false changes nothing". */
    static void refused(String what, Consumer<ObjectDepot> run, Function<ObjectDepot, Object> call, Object due) {
        Check.yes(what + ": " + due + " is an answer that refuses",
            due.equals(false) || due instanceof Integer && (Integer) due < 0);
        changesNothing(what, run, call, due);
    }

    /** The run, then the call: all is as if it had not been made. */
    static void changesNothing(String what, Consumer<ObjectDepot> run, Function<ObjectDepot, Object> call, Object due) {
        for (Function<ObjectDepot, String> probe : PROBES) {
            ObjectDepot with = new ObjectDepot();
            ObjectDepot without = new ObjectDepot();
            run.accept(with);
            run.accept(without);
            answers(what, with, call, due);
            same(what + ": what is seen", told(with), told(without));
            same(what + ": what comes of it", probe.apply(with) + told(with), probe.apply(without) + told(without));
        }
    }

    private static void answers(String what, ObjectDepot x, Function<ObjectDepot, Object> call, Object due) {
        Object got = call.apply(x);
        Check.yes(what + " (answer " + got + ", due " + due + ")", due.equals(got));
    }

    private static void same(String what, String got, String due) {
        Check.yes(what + " is the same as without the call", due.equals(got));
    }

    private static int putUntilFull(ObjectDepot x) {
        int taken = 0;
        while (taken < 1000 && x.put(1, taken)) {
            taken++;
        }
        return taken;
    }

    private static int feedUntilFull(ObjectDepot x) {
        int taken = 0;
        while (taken < 1000 && x.feed(1, taken)) {
            taken++;
        }
        return taken;
    }

    private static String entriesTaken(ObjectDepot x) {
        StringBuilder taken = new StringBuilder();
        for (int letter = 25; letter >= 0; letter--) {
            for (int k = 0; k < 24; k++) {
                taken.append(x.entry(letter, k) ? letter + " " : "");
            }
        }
        return taken.toString();
    }

    /** All that can be seen without a change. */
    static String told(ObjectDepot x) {
        StringBuilder all = new StringBuilder();
        for (int k = -1; k <= 24; k++) {
            all.append("\nobject ").append(k).append(':');
            for (int w = -1; w <= 8; w++) {
                all.append(' ').append(x.object(k, w));
            }
            for (int i = -1; i <= x.object(k, 1); i++) {
                all.append(i <= 0 ? " content " : ",").append(x.content(k, i));
            }
            for (int other = -1; other <= 24; other++) {
                all.append(x.reaches(k, other) ? " reaches " + other : "");
            }
            all.append(" found at ");
            all.append(x.find(x.object(k, 2), x.object(k, 3), x.object(k, 4), x.object(k, 5), x.object(k, 6)));
        }
        for (int r = -1; r <= 4; r++) {
            all.append("\nreference ").append(r).append(": ").append(x.reference(r));
        }
        for (int k = -1; k <= 16; k++) {
            all.append("\nmove ").append(k).append(':');
            for (int w = -1; w <= 3; w++) {
                all.append(' ').append(x.history(k, w));
            }
        }
        all.append("\nwire");
        for (int k = -2; k <= x.wire(-1); k++) {
            all.append(' ').append(x.wire(k));
        }
        return all.toString();
    }
}
