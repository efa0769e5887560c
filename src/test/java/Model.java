import java.util.ArrayDeque;
import java.util.ArrayList;
import java.util.Arrays;
import java.util.Deque;
import java.util.List;
import java.util.Map;
import java.util.Set;
import java.util.TreeMap;
import java.util.TreeSet;
import java.util.regex.Matcher;
import java.util.regex.Pattern;
import java.nio.charset.StandardCharsets;

/** The document once more, written with the Java library and without a look at the class. */
final class Model {
    private static final Pattern COMMIT_FORM = Pattern.compile(
        "tree ([0-9a-f]{40})\n(?:parent ([0-9a-f]{40})\n)?(?:parent ([0-9a-f]{40})\n)?"
        + "\n(?:0|[1-9][0-9]{0,2})\n");
    private static final Pattern ENTRY_FORM = Pattern.compile(
        "(100644|40000) ([a-z])\0(.{20})", Pattern.DOTALL);

    /** An object or a member; texts stand for rows of bytes, a character for each. */
    private static final class Thing {
        final int kind;
        final String content;
        final String name;
        int chain;

        Thing(int kind, String content) {
            this.kind = kind;
            this.content = content;
            this.name = text(Bytes.name(kind, bytes(content)));
        }
    }

    /** A NAME in a content, and the kind that what has it must have there. */
    private record Link(String name, int kind) {
    }

    private static final class Broken extends Exception {
        private static final long serialVersionUID = 1;
    }

    private final TreeMap<Integer, Thing> objects = new TreeMap<>();
    private final int[] references = {-1, -1, -1, -1};
    private final Deque<int[]> history = new ArrayDeque<>();
    private String buffer = "";
    private TreeMap<Integer, String> list = new TreeMap<>();
    private String wire = "";

    static String text(byte[] bytes) {
        return new String(bytes, StandardCharsets.ISO_8859_1);
    }

    static byte[] bytes(String text) {
        return text.getBytes(StandardCharsets.ISO_8859_1);
    }

    private static String lowest(int n, long bytes) {
        StringBuilder out = new StringBuilder();
        for (int i = n - 1; i >= 0; i--) {
            out.append((char) (bytes >> (8 * i) & 255));
        }
        return out.toString();
    }

    private int numberOf(String name) {
        for (Map.Entry<Integer, Thing> e : objects.entrySet()) {
            if (e.getValue().name.equals(name)) {
                return e.getKey();
            }
        }
        return -1;
    }

    private int store(Thing thing) {
        int known = numberOf(thing.name);
        if (known >= 0) {
            return known;
        }
        for (int k = 0; k < 24; k++) {
            if (!objects.containsKey(k)) {
                objects.put(k, thing);
                return k;
            }
        }
        return -2;
    }

    private boolean is(int k, int kind) {
        return objects.containsKey(k) && objects.get(k).kind == kind;
    }

    /** What a content names; null if it is no content of its kind. */
    private static List<Link> links(int kind, String content) {
        if (kind == 3) {
            return content.length() <= 48 ? List.of() : null;
        }
        return kind == 2 ? linksOfTree(content) : linksOfCommit(content);
    }

    private static List<Link> linksOfCommit(String content) {
        Matcher m = COMMIT_FORM.matcher(content);
        if (!m.matches()) {
            return null;
        }
        List<Link> all = new ArrayList<>();
        for (int g = 1; g <= 3; g++) {
            if (m.group(g) != null) {
                all.add(new Link(unhex(m.group(g)), g == 1 ? 2 : 1));
            }
        }
        return all;
    }

    private static List<Link> linksOfTree(String content) {
        List<Link> all = new ArrayList<>();
        Matcher m = ENTRY_FORM.matcher(content);
        String letters = "";
        int at = 0;
        while (m.find(at) && m.start() == at) {
            letters += m.group(2);
            all.add(new Link(m.group(3), m.group(1).equals("100644") ? 3 : 2));
            at = m.end();
            if (at == content.length()) {
                break;
            }
        }
        char[] sorted = letters.toCharArray();
        Arrays.sort(sorted);
        boolean ordered = letters.equals(new String(sorted))
            && letters.chars().distinct().count() == letters.length();
        return at == content.length() && letters.length() <= 4 && ordered ? all : null;
    }

    private static String unhex(String digits) {
        StringBuilder out = new StringBuilder();
        for (int i = 0; i < digits.length(); i += 2) {
            out.append((char) Integer.parseInt(digits.substring(i, i + 2), 16));
        }
        return out.toString();
    }

    private Set<Integer> reached(int k) {
        Set<Integer> all = new TreeSet<>();
        reach(k, all);
        return all;
    }

    private void reach(int k, Set<Integer> all) {
        if (!all.add(k)) {
            return;
        }
        for (Link link : links(objects.get(k).kind, objects.get(k).content)) {
            int next = numberOf(link.name);
            if (next < 0) {
                throw new IllegalStateException("object " + k + " names what is not in the store");
            }
            reach(next, all);
        }
    }

    private Set<Integer> reachedByReferences() {
        Set<Integer> all = new TreeSet<>();
        for (int held : references) {
            if (held >= 0) {
                all.addAll(reached(held));
            }
        }
        return all;
    }

    boolean put(int n, long bytes) {
        if (n < 1 || n > 8 || buffer.length() + n > 48) {
            return false;
        }
        buffer += lowest(n, bytes);
        return true;
    }

    int blob() {
        int k = store(new Thing(3, buffer));
        if (k >= 0) {
            buffer = "";
        }
        return k;
    }

    boolean entry(int letter, int k) {
        if (letter < 0 || letter > 25 || list.containsKey(letter) || list.size() == 4
            || !is(k, 3) && !is(k, 2)) {
            return false;
        }
        list.put(letter, objects.get(k).name);
        return true;
    }

    int tree() {
        StringBuilder out = new StringBuilder();
        for (Map.Entry<Integer, String> e : list.entrySet()) {
            int k = numberOf(e.getValue());
            if (k < 0) {
                return -1;
            }
            out.append(objects.get(k).kind == 3 ? "100644 " : "40000 ");
            out.append((char) ('a' + e.getKey())).append('\0').append(e.getValue());
        }
        int k = store(new Thing(2, out.toString()));
        if (k >= 0) {
            list.clear();
        }
        return k;
    }

    void clear() {
        buffer = "";
        list = new TreeMap<>();
    }

    int commit(int tree, int p, int q, int number) {
        if (!is(tree, 2) || p != -1 && !is(p, 1) || q != -1 && !is(q, 1) || number < 0 || number > 999) {
            return -1;
        }
        StringBuilder out = new StringBuilder("tree ");
        out.append(Bytes.hex(bytes(objects.get(tree).name))).append('\n');
        for (int parent : new int[] {p, q}) {
            if (parent != -1) {
                out.append("parent ").append(Bytes.hex(bytes(objects.get(parent).name))).append('\n');
            }
        }
        return store(new Thing(1, out.append('\n').append(number).append('\n').toString()));
    }

    private int firstWord(int k) {
        return k < 0 ? 0 : Bytes.word(bytes(objects.get(k).name), 0);
    }

    boolean move(int r, int from, int to) {
        if (r < 0 || r > 3 || references[r] != from || to != -1 && !is(to, 1)) {
            return false;
        }
        history.addFirst(new int[] {r, firstWord(from), firstWord(to)});
        if (history.size() > 16) {
            history.removeLast();
        }
        references[r] = to;
        return true;
    }

    int reference(int r) {
        return r < 0 || r > 3 ? -1 : references[r];
    }

    int history(int k, int w) {
        if (k < 0 || k >= history.size() || w < 0 || w > 2) {
            return -1;
        }
        return new ArrayList<>(history).get(k)[w];
    }

    int clean() {
        int before = objects.size();
        objects.keySet().retainAll(reachedByReferences());
        return before - objects.size();
    }

    int object(int k, int w) {
        if (!objects.containsKey(k) || w < 0 || w > 7) {
            return -1;
        }
        Thing thing = objects.get(k);
        if (w == 0) {
            return thing.kind;
        }
        if (w == 1) {
            return thing.content.length();
        }
        return w == 7 ? reached(k).size() : Bytes.word(bytes(thing.name), w - 2);
    }

    int content(int k, int i) {
        boolean there = objects.containsKey(k) && i >= 0 && i < objects.get(k).content.length();
        return there ? objects.get(k).content.charAt(i) : -1;
    }

    int find(int a, int b, int c, int d, int e) {
        StringBuilder name = new StringBuilder();
        for (int word : new int[] {a, b, c, d, e}) {
            name.append(lowest(4, word));
        }
        return numberOf(name.toString());
    }

    boolean reaches(int a, int b) {
        return objects.containsKey(a) && objects.containsKey(b) && reached(a).contains(b);
    }

    static String delta(String base, String target) {
        StringBuilder out = new StringBuilder();
        String open = "";
        int at = 0;
        while (at < target.length()) {
            int n = Math.min(127, target.length() - at);
            while (n > 0 && !base.contains(target.substring(at, at + n))) {
                n--;
            }
            if (n >= 4) {
                out.append(inserts(open)).append((char) (128 + n));
                out.append((char) base.indexOf(target.substring(at, at + n)));
                open = "";
                at += n;
            } else {
                open += target.charAt(at);
                at++;
            }
        }
        return out.append(inserts(open)).toString();
    }

    private static String inserts(String bytes) {
        StringBuilder out = new StringBuilder();
        for (int from = 0; from < bytes.length(); from += 127) {
            String part = bytes.substring(from, Math.min(from + 127, bytes.length()));
            out.append((char) part.length()).append(part);
        }
        return out.toString();
    }

    int pack(int depth) {
        Set<Integer> all = reachedByReferences();
        if (all.isEmpty() || depth < 0 || depth > 5) {
            return -1;
        }
        List<Thing> members = new ArrayList<>();
        for (int kind = 3; kind >= 1; kind--) {
            for (int k : all) {
                if (is(k, kind)) {
                    members.add(objects.get(k));
                }
            }
        }
        StringBuilder out = new StringBuilder("P").append((char) members.size());
        for (int i = 0; i < members.size(); i++) {
            out.append(written(members, i, depth));
        }
        String whole = text(Bytes.withSum(bytes(out.toString())));
        if (whole.length() > 600) {
            return -2;
        }
        wire = whole;
        return members.size();
    }

    private static String written(List<Thing> members, int i, int depth) {
        Thing thing = members.get(i);
        String best = null;
        int back = 0;
        for (int d = 3; d >= 1; d--) {
            if (d > i || members.get(i - d).kind != thing.kind || members.get(i - d).chain >= depth) {
                continue;
            }
            String delta = delta(members.get(i - d).content, thing.content);
            if (best == null || delta.length() <= best.length()) {
                best = delta;
                back = d;
            }
        }
        String size = text(Bytes.of(thing.content.length()));
        String whole = (char) thing.kind + size + thing.content;
        thing.chain = 0;
        if (best == null) {
            return whole;
        }
        String changed = "\4" + size + (char) back + (char) best.length() + best;
        if (changed.length() >= whole.length()) {
            return whole;
        }
        thing.chain = members.get(i - back).chain + 1;
        return changed;
    }

    int unpack() {
        List<Thing> members;
        try {
            members = members();
        } catch (Broken e) {
            return -3;
        }
        // Two contents of different kinds may have one NAME: all things are asked, not one for each NAME.
        List<Thing> there = new ArrayList<>(objects.values());
        there.addAll(members);
        for (Thing member : members) {
            for (Link link : links(member.kind, member.content)) {
                if (there.stream().noneMatch(t -> t.name.equals(link.name) && t.kind == link.kind)) {
                    return -4;
                }
            }
        }
        int before = objects.size();
        int after = (int) there.stream().map(t -> t.name).distinct().count();
        if (after > 24) {
            return -2;
        }
        members.forEach(this::store);
        return after - before;
    }

    private int at;

    private String take(int n) throws Broken {
        if (at + n > wire.length()) {
            throw new Broken();
        }
        at += n;
        return wire.substring(at - n, at);
    }

    private static void must(boolean right) throws Broken {
        if (!right) {
            throw new Broken();
        }
    }

    private List<Thing> members() throws Broken {
        at = 0;
        must(take(1).equals("P"));
        int count = take(1).charAt(0);
        must(count >= 1 && count <= 24);
        List<Thing> members = new ArrayList<>();
        for (int i = 0; i < count; i++) {
            members.add(member(members));
        }
        String head = wire.substring(0, at);
        must(wire.equals(text(Bytes.withSum(bytes(head)))));
        return members;
    }

    private Thing member(List<Thing> before) throws Broken {
        int form = take(1).charAt(0);
        int length = take(1).charAt(0);
        must(form >= 1 && form <= 5);
        int kind = form;
        String content;
        if (form <= 3) {
            content = take(length);
        } else {
            Thing base = form == 4 ? back(before, take(1).charAt(0)) : named(before, take(20));
            must(base != null);
            kind = base.kind;
            content = changed(base.content, take(take(1).charAt(0)));
            must(content.length() == length);
        }
        must(links(kind, content) != null);
        return new Thing(kind, content);
    }

    private static Thing back(List<Thing> before, int d) {
        return d < 1 || d > before.size() ? null : before.get(before.size() - d);
    }

    private Thing named(List<Thing> before, String name) {
        for (Thing thing : before) {
            if (thing.name.equals(name)) {
                return thing;
            }
        }
        return objects.get(numberOf(name));
    }

    private static String changed(String base, String delta) throws Broken {
        StringBuilder out = new StringBuilder();
        int i = 0;
        while (i < delta.length()) {
            int b = delta.charAt(i);
            if (b > 128) {
                must(i + 1 < delta.length());
                int p = delta.charAt(i + 1);
                must(p + b - 128 <= base.length());
                out.append(base, p, p + b - 128);
                i += 2;
            } else {
                must(b != 0 && b != 128 && i + 1 + b <= delta.length());
                out.append(delta, i + 1, i + 1 + b);
                i += 1 + b;
            }
        }
        return out.toString();
    }

    boolean feed(int n, long bytes) {
        if (n < 1 || n > 8 || wire.length() + n > 600) {
            return false;
        }
        wire += lowest(n, bytes);
        return true;
    }

    boolean alter(int k, int b) {
        if (k < 0 || k >= wire.length() || b < -1 || b > 255) {
            return false;
        }
        wire = wire.substring(0, k) + (b == -1 ? "" : (char) b + wire.substring(k + 1));
        return true;
    }

    int wire(int k) {
        if (k == -1) {
            return wire.length();
        }
        return k < 0 || k >= wire.length() ? -1 : wire.charAt(k);
    }
}
