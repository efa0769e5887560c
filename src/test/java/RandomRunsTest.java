import java.util.ArrayList;
import java.util.List;
import java.util.Random;

/** Long runs of calls, the same on the class and on the model of the document, all answers compared. */
public final class RandomRunsTest {
    private static final int RUNS = 300;
    private static final int CALLS = 400;

    private final ObjectDepot depot = new ObjectDepot();
    private final Model model = new Model();
    private final Random random;
    private final String run;
    private final int[] seen;

    private RandomRunsTest(int seed, int[] seen) {
        random = new Random(seed);
        run = "run " + seed + ": ";
        this.seen = seen;
    }

    public static void main(String[] args) {
        // How often unpack answered a number, NONE (never), FULL, BROKEN and LACKING, then pack.
        int[] seen = new int[10];
        for (int seed = 0; seed < RUNS && Check.allRight(); seed++) {
            new RandomRunsTest(seed, seen).calls();
        }
        for (int i : new int[] {0, 2, 3, 4, 5, 6, 7}) {
            Check.yes("the runs are mixed enough to see outcome " + i, seen[i] > 100);
        }
        Check.end();
    }

    private void calls() {
        for (int i = 0; i < CALLS && Check.allRight(); i++) {
            call();
            if (i % 10 == 0) {
                compareState();
            }
        }
        compareState();
    }

    private int below(int n) {
        return random.nextInt(n);
    }

    /** Mostly the number of an object, sometimes none, seldom something wild. */
    private int number() {
        int dice = below(20);
        return dice == 0 ? -1 : dice == 1 ? below(60) - 20 : below(24);
    }

    private int numberOfKind(int kind) {
        List<Integer> all = new ArrayList<>();
        for (int k = 0; k < 24; k++) {
            if (model.object(k, 0) == kind) {
                all.add(k);
            }
        }
        return all.isEmpty() || below(20) == 0 ? number() : all.get(below(all.size()));
    }

    private long fewLetters() {
        long bytes = 0;
        for (int i = 0; i < 8; i++) {
            bytes = bytes << 8 | 'a' + below(2);
        }
        return below(4) == 0 ? random.nextLong() : bytes;
    }

    private void same(String what, long got, long due) {
        Check.same(run + what, got, due);
    }

    private void same(String what, boolean got, boolean due) {
        Check.same(run + what, got ? 1 : 0, due ? 1 : 0);
    }

    private void call() {
        int dice = below(100);
        if (dice < 40) {
            makeObjects(dice);
        } else if (dice < 60) {
            references(dice);
        } else if (dice < 75) {
            ask(dice);
        } else {
            packs(dice);
        }
    }

    private void makeObjects(int dice) {
        if (dice < 12) {
            int n = below(20) == 0 ? below(12) - 2 : 1 + below(8);
            long bytes = fewLetters();
            same("put(" + n + ", " + bytes + ")", depot.put(n, bytes), model.put(n, bytes));
        } else if (dice < 18) {
            same("blob()", depot.blob(), model.blob());
        } else if (dice < 28) {
            int letter = below(10) == 0 ? below(40) - 8 : below(26);
            int k = below(2) == 0 ? numberOfKind(2) : numberOfKind(3);
            same("entry(" + letter + ", " + k + ")", depot.entry(letter, k), model.entry(letter, k));
        } else if (dice < 32) {
            same("tree()", depot.tree(), model.tree());
        } else if (dice < 33) {
            depot.clear();
            model.clear();
        } else {
            int tree = numberOfKind(2);
            int p = below(3) == 0 ? -1 : numberOfKind(1);
            int q = below(2) == 0 ? -1 : numberOfKind(1);
            int n = below(10) == 0 ? below(2000) - 500 : below(below(2) == 0 ? 12 : 1000);
            same("commit(" + tree + ", " + p + ", " + q + ", " + n + ")",
                depot.commit(tree, p, q, n), model.commit(tree, p, q, n));
        }
    }

    private void references(int dice) {
        if (dice < 53) {
            int r = below(15) == 0 ? below(10) - 3 : below(4);
            int from = below(8) == 0 ? number() : model.reference(r);
            int to = below(4) == 0 ? -1 : numberOfKind(1);
            same("move(" + r + ", " + from + ", " + to + ")", depot.move(r, from, to), model.move(r, from, to));
        } else if (dice < 56) {
            int k = below(20) - 2;
            int w = below(6) - 1;
            same("history(" + k + ", " + w + ")", depot.history(k, w), model.history(k, w));
        } else if (dice < 58) {
            int r = below(8) - 2;
            same("reference(" + r + ")", depot.reference(r), model.reference(r));
        } else if (below(3) == 0) {
            same("clean()", depot.clean(), model.clean());
        }
    }

    private void ask(int dice) {
        int k = number();
        int other = number();
        if (dice < 66) {
            same("reaches(" + k + ", " + other + ")", depot.reaches(k, other), model.reaches(k, other));
        } else if (dice < 70) {
            int i = below(160) - 4;
            same("content(" + k + ", " + i + ")", depot.content(k, i), model.content(k, i));
        } else {
            int w = below(11) - 2;
            same("object(" + k + ", " + w + ")", depot.object(k, w), model.object(k, w));
            int[] n = new int[5];
            for (int i = 0; i < 5; i++) {
                n[i] = model.object(k, 2 + i) + (below(20) == 0 ? 1 : 0);
            }
            same("find", depot.find(n[0], n[1], n[2], n[3], n[4]), model.find(n[0], n[1], n[2], n[3], n[4]));
        }
    }

    private void packs(int dice) {
        if (dice < 80) {
            int depth = below(15) == 0 ? below(12) - 3 : below(6);
            int due = model.pack(depth);
            seen[due > 0 ? 5 : due == -1 ? 6 : 7]++;
            same("pack(" + depth + ")", depot.pack(depth), due);
        } else if (dice < 84) {
            compareUnpack();
        } else if (dice < 88) {
            alter();
        } else if (dice < 90) {
            int n = below(12) - 2;
            long bytes = random.nextLong();
            same("feed(" + n + ", " + bytes + ")", depot.feed(n, bytes), model.feed(n, bytes));
        } else {
            setWire(randomPack());
            compareUnpack();
        }
    }

    private void compareUnpack() {
        int due = model.unpack();
        seen[due > 0 ? 0 : -due]++;
        same("unpack()", depot.unpack(), due);
    }

    private void alter() {
        int k = below(model.wire(-1) + 4) - 2;
        int b = below(4) == 0 ? -1 : below(270) - 5;
        same("alter(" + k + ", " + b + ")", depot.alter(k, b), model.alter(k, b));
    }

    private void setWire(byte[] bytes) {
        same("alter(0, -1)", depot.alter(0, -1), model.alter(0, -1));
        for (int from = 0; from < bytes.length; from += 8) {
            int n = Math.min(8, bytes.length - from);
            long number = Bytes.number(bytes, from, n);
            same("feed(" + n + ", " + number + ")", depot.feed(n, number), model.feed(n, number));
        }
    }

    private byte[] contentOf(int k) {
        byte[] content = new byte[Math.max(0, model.object(k, 1))];
        for (int i = 0; i < content.length; i++) {
            content[i] = (byte) model.content(k, i);
        }
        return content;
    }

    private byte[] randomPack() {
        List<byte[]> contents = new ArrayList<>();
        List<Integer> kinds = new ArrayList<>();
        List<byte[]> members = new ArrayList<>();
        int count = below(12) == 0 ? below(24) : 1 + below(6);
        for (int i = 0; i < count; i++) {
            int kind = 1 + below(3);
            byte[] content = randomContent(kind, kinds, contents);
            members.add(randomMember(kind, content, kinds, contents));
            kinds.add(kind);
            contents.add(content);
        }
        byte[] head = Bytes.of(80, members.size(), Bytes.of(members.toArray()));
        if (below(3) == 0) {
            damage(head);
        }
        byte[] pack = Bytes.withSum(head);
        if (below(12) == 0) {
            damage(pack);
        }
        return below(25) == 0 ? Bytes.of(pack, 0) : pack;
    }

    private void damage(byte[] bytes) {
        int at = below(4) == 0 ? below(Math.min(4, bytes.length)) : below(bytes.length);
        bytes[at] = (byte) (below(2) == 0 ? bytes[at] + 1 : below(256));
    }

    private byte[] randomContent(int kind, List<Integer> kinds, List<byte[]> contents) {
        if (below(8) == 0) {
            int k = numberOfKind(kind);
            if (model.object(k, 0) == kind) {
                return contentOf(k);
            }
        }
        if (kind == 3) {
            byte[] content = new byte[below(30) == 0 ? 47 + below(4) : below(20)];
            for (int i = 0; i < content.length; i++) {
                content[i] = (byte) ('a' + below(2));
            }
            return content;
        }
        if (kind == 1) {
            byte[][] parents = new byte[below(15) == 0 ? 3 : below(3)][];
            for (int i = 0; i < parents.length; i++) {
                parents[i] = randomName(1, kinds, contents);
            }
            return Bytes.commit(below(12) == 0 ? below(3000) : below(20), randomName(2, kinds, contents), parents);
        }
        byte[] tree = new byte[0];
        char letter = 'a';
        int entries = below(20) == 0 ? 5 : below(4);
        for (int i = 0; i < entries; i++) {
            int entryKind = 2 + below(2);
            int named = below(30) == 0 ? 1 + below(3) : entryKind;
            tree = Bytes.of(tree, Bytes.entry(entryKind, letter, randomName(named, kinds, contents)));
            letter += below(20) == 0 ? 0 : 1 + below(6);
        }
        return tree;
    }

    private byte[] randomName(int kind, List<Integer> kinds, List<byte[]> contents) {
        for (int i = 0; i < kinds.size(); i++) {
            int j = below(kinds.size());
            if (kinds.get(j) == kind && below(3) != 0) {
                return Bytes.name(kind, contents.get(j));
            }
        }
        int k = numberOfKind(kind);
        if (model.object(k, 0) == kind) {
            return Bytes.name(kind, contentOf(k));
        }
        return kind == 3 ? Bytes.name(3, new byte[0]) : kind == 2 ? Bytes.name(2, new byte[0]) : new byte[20];
    }

    private byte[] randomMember(int kind, byte[] content, List<Integer> kinds, List<byte[]> contents) {
        int form = below(3);
        String target = Model.text(content);
        if (form == 1 && !kinds.isEmpty()) {
            for (int tries = 0; tries < 4; tries++) {
                int d = 1 + below(kinds.size());
                if (kinds.get(kinds.size() - d) == kind) {
                    String base = Model.text(contents.get(contents.size() - d));
                    return Bytes.deltaBack(content.length, d, randomDelta(base, target));
                }
            }
        } else if (form == 2) {
            byte[] base = randomContent(kind, kinds, contents);
            int k = numberOfKind(kind);
            if (model.object(k, 0) == kind && below(6) != 0) {
                base = contentOf(k);
            } else if (!kinds.isEmpty() && kinds.contains(kind)) {
                base = contents.get(kinds.indexOf(kind));
            }
            return Bytes.deltaNamed(content.length, Bytes.name(kind, base), randomDelta(Model.text(base), target));
        }
        return Bytes.whole(kind, content);
    }

    private byte[] randomDelta(String base, String target) {
        byte[] delta = Model.bytes(Model.delta(base, target));
        if (delta.length > 0 && below(15) == 0) {
            damage(delta);
        }
        return delta;
    }

    private void compareState() {
        for (int k = 0; k < 24; k++) {
            for (int w = 0; w < 8; w++) {
                same("state object(" + k + ", " + w + ")", depot.object(k, w), model.object(k, w));
            }
            for (int i = 0; i < model.object(k, 1); i++) {
                same("state content(" + k + ", " + i + ")", depot.content(k, i), model.content(k, i));
            }
        }
        for (int r = 0; r < 4; r++) {
            same("state reference(" + r + ")", depot.reference(r), model.reference(r));
        }
        for (int k = 0; k < 17; k++) {
            for (int w = 0; w < 3; w++) {
                same("state history(" + k + ", " + w + ")", depot.history(k, w), model.history(k, w));
            }
        }
        for (int i = -1; i < model.wire(-1); i++) {
            same("state wire(" + i + ")", depot.wire(i), model.wire(i));
        }
    }
}
