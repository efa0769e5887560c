/** A store of objects that are named by what they are; README.md tells how it is used. */
public final class ObjectDepot {
    public static final int NONE = -1;
    public static final int FULL = -2;
    public static final int BROKEN = -3;
    public static final int LACKING = -4;

    private static final int NO_KIND = 0;
    private static final int COMMIT = 1;
    private static final int TREE = 2;
    private static final int BLOB = 3;
    private static final int DELTA_FROM_MEMBER = 4;
    private static final int DELTA_FROM_NAMED = 5;
    private static final int PACK_MARK = 80;
    private static final int PACK_SUM = 4;

    private static final int MOST_OBJECTS = 24;
    private static final int MOST_REFERENCES = 4;
    private static final int MOST_BLOB = 48;
    private static final int MOST_ENTRIES = 4;
    private static final int MOST_PARENTS = 2;
    private static final int MOST_DIGITS = 3;
    private static final int MOST_NUMBER = 999;
    private static final int MOST_WIRE = 600;
    private static final int MOST_DEPTH = 5;
    private static final int LETTERS = 26;
    private static final int NAME_WORDS = 5;
    private static final int NAME_BYTES = 20;
    private static final int NAME_DIGITS = 40;

    // The longest content is a commit with two parents and a number of three digits.
    private static final int MOST_CONTENT = 147;

    private final Store store = new Store();
    private final Item draft = new Item();
    private final Name sought = new Name();
    private final ByteRow buffer = new ByteRow(MOST_BLOB);
    private final EntryList list = new EntryList();
    private final References references = new References();
    private final ByteRow wire = new ByteRow(MOST_WIRE);
    private final PackWriter writer = new PackWriter();
    private final PackReader reader = new PackReader();
    private final Sha1 sha = new Sha1();

    public ObjectDepot() {
    }

    public boolean put(int n, long bytes) {
        return buffer.addLowest(n, bytes);
    }

    public int blob() {
        draft.begin(BLOB);
        draft.content.addAll(buffer);
        int k = storeDraft();
        if (k != FULL) {
            buffer.shorten(0);
        }
        return k;
    }

    public boolean entry(int letter, int k) {
        Item item = store.itemAt(k);
        return item != null && item.kind != COMMIT && list.add(letter, item.name);
    }

    public int tree() {
        draft.begin(TREE);
        for (int letter = 0; letter < LETTERS; letter++) {
            if (list.has(letter) && !draftEntry(letter)) {
                return NONE;
            }
        }
        int k = storeDraft();
        if (k != FULL) {
            list.empty();
        }
        return k;
    }

    public void clear() {
        buffer.shorten(0);
        list.empty();
    }

    public int commit(int tree, int p, int q, int number) {
        if (!store.holds(tree, TREE) || !canBeHeld(p) || !canBeHeld(q)) {
            return NONE;
        }
        if (number < 0 || number > MOST_NUMBER) {
            return NONE;
        }
        draft.begin(COMMIT);
        draftNameLine("tree ", tree);
        draftNameLine("parent ", p);
        draftNameLine("parent ", q);
        draft.content.add('\n');
        draft.content.addDecimal(number);
        draft.content.add('\n');
        return storeDraft();
    }

    public boolean move(int r, int from, int to) {
        if (!references.holds(r, from) || !canBeHeld(to)) {
            return false;
        }
        references.change(r, to, store.firstWordOf(from), store.firstWordOf(to));
        return true;
    }

    public int reference(int r) {
        return references.heldBy(r);
    }

    public int history(int k, int w) {
        return references.noteOf(k, w);
    }

    public int clean() {
        return store.removeAllBut(store.reachedFrom(references.allHeld()));
    }

    public int object(int k, int w) {
        Item item = store.itemAt(k);
        if (item == null) {
            return NONE;
        }
        if (w >= 2 && w < 2 + NAME_WORDS) {
            return item.name.words[w - 2];
        }
        switch (w) {
            case 0:
                return item.kind;
            case 1:
                return item.content.length;
            case 7:
                return Integer.bitCount(store.reachedFrom(bitOf(k)));
            default:
                return NONE;
        }
    }

    public int content(int k, int i) {
        Item item = store.itemAt(k);
        return item == null ? NONE : item.content.at(i);
    }

    public int find(int a, int b, int c, int d, int e) {
        sought.become(a, b, c, d, e);
        return store.numberOf(sought);
    }

    public boolean reaches(int a, int b) {
        if (store.itemAt(a) == null || store.itemAt(b) == null) {
            return false;
        }
        return hasBit(store.reachedFrom(bitOf(a)), b);
    }

    public int pack(int depth) {
        int held = references.allHeld();
        if (held == 0 || depth < 0 || depth > MOST_DEPTH) {
            return NONE;
        }
        writer.gather(store, store.reachedFrom(held));
        if (!writer.write(depth, sha)) {
            return FULL;
        }
        wire.shorten(0);
        wire.addAll(writer.row);
        return writer.count;
    }

    public int unpack() {
        if (!reader.read(wire, store, sha)) {
            return BROKEN;
        }
        if (reader.lacksNamed(store)) {
            return LACKING;
        }
        int fresh = reader.countFresh(store);
        if (store.count() + fresh > MOST_OBJECTS) {
            return FULL;
        }
        reader.storeAll(store);
        return fresh;
    }

    public boolean feed(int n, long bytes) {
        return wire.addLowest(n, bytes);
    }

    public boolean alter(int k, int b) {
        if (b < -1 || b > 255 || wire.at(k) == NONE) {
            return false;
        }
        if (b == -1) {
            wire.shorten(k);
        } else {
            wire.change(k, b);
        }
        return true;
    }

    public int wire(int k) {
        return k == -1 ? wire.length : wire.at(k);
    }

    /** A parent and what a reference is to hold: nothing, or a commit. */
    private boolean canBeHeld(int k) {
        return k == NONE || store.holds(k, COMMIT);
    }

    /** False if the entry's object is not in the store any more. */
    private boolean draftEntry(int letter) {
        Name name = list.nameOf(letter);
        Item named = store.itemAt(store.numberOf(name));
        if (named == null) {
            return false;
        }
        draft.content.addText(named.kind == BLOB ? "100644 " : "40000 ");
        draft.content.add('a' + letter);
        draft.content.add(0);
        draft.content.addNameBytes(name);
        return true;
    }

    /** No line for no object, so that parents can be left out. */
    private void draftNameLine(String word, int k) {
        Item named = store.itemAt(k);
        if (named != null) {
            draft.content.addText(word);
            draft.content.addNameDigits(named.name);
            draft.content.add('\n');
        }
    }

    private int storeDraft() {
        draft.giveName(sha);
        int k = store.keep(draft);
        if (k != FULL) {
            store.link(k);
        }
        return k;
    }

    /** The set with this number alone; sets of numbers are held as the bits of an int. */
    private static int bitOf(int k) {
        return k < 0 || k >= MOST_OBJECTS ? 0 : 1 << k;
    }

    private static boolean hasBit(int set, int k) {
        return (set & bitOf(k)) != 0;
    }

    /** A row of bytes with a greatest length; what does not fit is not added. */
    private static final class ByteRow {
        private final int[] bytes;
        private int length;

        ByteRow(int most) {
            bytes = new int[most];
        }

        int at(int k) {
            return k < 0 || k >= length ? NONE : bytes[k];
        }

        void change(int k, int b) {
            if (k >= 0 && k < length) {
                bytes[k] = b;
            }
        }

        void shorten(int newLength) {
            if (newLength >= 0 && newLength < length) {
                length = newLength;
            }
        }

        boolean add(int b) {
            if (length >= bytes.length) {
                return false;
            }
            bytes[length] = b;
            length++;
            return true;
        }

        boolean addLowest(int n, long from) {
            if (n < 1 || n > 8 || length + n > bytes.length) {
                return false;
            }
            for (int i = n - 1; i >= 0; i--) {
                add((int) (from >>> 8 * i) & 255);
            }
            return true;
        }

        boolean addPart(ByteRow other, int from, int n) {
            if (from < 0 || n < 0 || from + n > other.length || length + n > bytes.length) {
                return false;
            }
            System.arraycopy(other.bytes, from, bytes, length, n);
            length += n;
            return true;
        }

        boolean addAll(ByteRow other) {
            return addPart(other, 0, other.length);
        }

        void addText(String text) {
            for (int i = 0; i < text.length(); i++) {
                add(text.charAt(i));
            }
        }

        /** For numbers of at most three digits. */
        void addDecimal(int number) {
            if (number >= 100) {
                add('0' + number / 100);
            }
            if (number >= 10) {
                add('0' + number / 10 % 10);
            }
            add('0' + number % 10);
        }

        void addNameBytes(Name name) {
            for (int i = 0; i < NAME_BYTES; i++) {
                add(name.words[i / 4] >>> 24 - i % 4 * 8 & 255);
            }
        }

        void addNameDigits(Name name) {
            for (int i = 0; i < NAME_DIGITS; i++) {
                int value = name.words[i / 8] >>> 28 - i % 8 * 4 & 15;
                add(value < 10 ? '0' + value : 'a' + value - 10);
            }
        }
    }

    private static final class Name {
        private final int[] words = new int[NAME_WORDS];

        void become(int a, int b, int c, int d, int e) {
            words[0] = a;
            words[1] = b;
            words[2] = c;
            words[3] = d;
            words[4] = e;
        }

        void copyFrom(Name other) {
            System.arraycopy(other.words, 0, words, 0, NAME_WORDS);
        }

        boolean isSame(Name other) {
            for (int i = 0; i < NAME_WORDS; i++) {
                if (words[i] != other.words[i]) {
                    return false;
                }
            }
            return true;
        }

        /** False if the row ends before the name does. */
        boolean takeBytes(ByteRow row, int from) {
            if (from < 0 || from + NAME_BYTES > row.length) {
                return false;
            }
            // Shifting four bytes into each word leaves nothing of what it was.
            for (int i = 0; i < NAME_BYTES; i++) {
                words[i / 4] = words[i / 4] << 8 | row.bytes[from + i];
            }
            return true;
        }
    }

    /** Its message is filled after begin() and summed up by finish(). */
    private static final class Sha1 {
        private static final int BLOCK = 64;
        private static final int LENGTH_AT = 56;
        private static final int STEPS = 80;

        // Room for a full wire and its filling up to whole blocks.
        private final ByteRow message = new ByteRow(10 * BLOCK);
        private final int[] w = new int[STEPS];
        private final Name sum = new Name();

        void begin() {
            message.shorten(0);
        }

        void finish() {
            long bits = 8L * message.length;
            message.add(128);
            for (int i = 0; i < BLOCK && message.length % BLOCK != LENGTH_AT; i++) {
                message.add(0);
            }
            message.addLowest(8, bits);
            sum.become(1732584193, -271733879, -1732584194, 271733878, -1009589776);
            for (int from = 0; from + BLOCK <= message.length; from += BLOCK) {
                fillWords(from);
                goThroughBlock();
            }
        }

        private void fillWords(int from) {
            for (int t = 0; t < 16; t++) {
                int at = from + 4 * t;
                w[t] = message.at(at) << 24 | message.at(at + 1) << 16
                    | message.at(at + 2) << 8 | message.at(at + 3);
            }
            for (int t = 16; t < STEPS; t++) {
                w[t] = turnLeft(w[t - 3] ^ w[t - 8] ^ w[t - 14] ^ w[t - 16], 1);
            }
        }

        private void goThroughBlock() {
            int a = sum.words[0];
            int b = sum.words[1];
            int c = sum.words[2];
            int d = sum.words[3];
            int e = sum.words[4];
            for (int t = 0; t < STEPS; t++) {
                int temp = turnLeft(a, 5) + mix(t, b, c, d) + e + w[t];
                e = d;
                d = c;
                c = turnLeft(b, 30);
                b = a;
                a = temp;
            }
            sum.become(sum.words[0] + a, sum.words[1] + b, sum.words[2] + c,
                sum.words[3] + d, sum.words[4] + e);
        }

        /** The f and the k of step t, added. */
        private static int mix(int t, int b, int c, int d) {
            if (t < 20) {
                return (b & c | ~b & d) + 1518500249;
            }
            if (t < 40) {
                return (b ^ c ^ d) + 1859775393;
            }
            if (t < 60) {
                return (b & c | b & d | c & d) - 1894007588;
            }
            return (b ^ c ^ d) - 899497514;
        }

        private static int turnLeft(int x, int n) {
            return x << n | x >>> 32 - n;
        }
    }

    /** An object of the store, a member of a pack, or an object that is about to be stored. */
    private static final class Item {
        private int kind = NO_KIND;
        private final ByteRow content = new ByteRow(MOST_CONTENT);
        private final Name name = new Name();
        // The set of the numbers of what it names; only objects of the store have it.
        private int links = 0;

        void begin(int newKind) {
            kind = newKind;
            content.shorten(0);
            links = 0;
        }

        void copyFrom(Item other) {
            begin(other.kind);
            content.addAll(other.content);
            name.copyFrom(other.name);
        }

        void giveName(Sha1 sha) {
            sha.begin();
            sha.message.addText(kind == COMMIT ? "commit " : kind == TREE ? "tree " : "blob ");
            sha.message.addDecimal(content.length);
            sha.message.add(0);
            sha.message.addAll(content);
            sha.finish();
            name.copyFrom(sha.sum);
        }
    }

    private static final class Store {
        private final Item[] items = new Item[MOST_OBJECTS];
        private final Reading reading = new Reading();

        Store() {
            for (int k = 0; k < MOST_OBJECTS; k++) {
                items[k] = new Item();
            }
        }

        /** Null if there is no object k. */
        Item itemAt(int k) {
            if (k < 0 || k >= MOST_OBJECTS || items[k].kind == NO_KIND) {
                return null;
            }
            return items[k];
        }

        boolean holds(int k, int kind) {
            Item item = itemAt(k);
            return item != null && item.kind == kind;
        }

        int firstWordOf(int k) {
            Item item = itemAt(k);
            return item == null ? 0 : item.name.words[0];
        }

        int numberOf(Name name) {
            for (int k = 0; k < MOST_OBJECTS; k++) {
                if (items[k].kind != NO_KIND && items[k].name.isSame(name)) {
                    return k;
                }
            }
            return NONE;
        }

        int count() {
            int count = 0;
            for (int k = 0; k < MOST_OBJECTS; k++) {
                if (items[k].kind != NO_KIND) {
                    count++;
                }
            }
            return count;
        }

        /** Apart from link, as a pack's member may name one that is stored after it. */
        int keep(Item item) {
            int known = numberOf(item.name);
            if (known != NONE) {
                return known;
            }
            for (int k = 0; k < MOST_OBJECTS; k++) {
                if (items[k].kind == NO_KIND) {
                    items[k].copyFrom(item);
                    return k;
                }
            }
            return FULL;
        }

        void link(int k) {
            Item item = itemAt(k);
            if (item == null || !reading.understands(item)) {
                return;
            }
            int links = 0;
            for (int i = 0; i < reading.count; i++) {
                links |= bitOf(numberOf(reading.names[i]));
            }
            item.links = links;
        }

        /** The numbers of all that the objects of this set reach. */
        int reachedFrom(int set) {
            int reached = set;
            // What is reached at all is reached over fewer than MOST_OBJECTS others.
            for (int round = 0; round < MOST_OBJECTS; round++) {
                int before = reached;
                for (int k = 0; k < MOST_OBJECTS; k++) {
                    if (hasBit(reached, k)) {
                        reached |= items[k].links;
                    }
                }
                if (reached == before) {
                    break;
                }
            }
            return reached;
        }

        int removeAllBut(int set) {
            int removed = 0;
            for (int k = 0; k < MOST_OBJECTS; k++) {
                if (items[k].kind != NO_KIND && !hasBit(set, k)) {
                    items[k].begin(NO_KIND);
                    removed++;
                }
            }
            return removed;
        }
    }

    /** Tells whether a content is one of its kind, and notes the names and kinds in it. */
    private static final class Reading {
        private final Name[] names = new Name[MOST_ENTRIES];
        private final int[] kinds = new int[MOST_ENTRIES];
        private int count;
        private ByteRow row;
        private int place;

        Reading() {
            for (int i = 0; i < MOST_ENTRIES; i++) {
                names[i] = new Name();
            }
        }

        boolean understands(Item item) {
            row = item.content;
            place = 0;
            count = 0;
            switch (item.kind) {
                case BLOB:
                    return row.length <= MOST_BLOB;
                case TREE:
                    return takesTree();
                case COMMIT:
                    return takesCommit();
                default:
                    return false;
            }
        }

        private boolean takesTree() {
            int lastLetter = 'a' - 1;
            for (int i = 0; i < MOST_ENTRIES && place < row.length; i++) {
                int kind = takes("100644 ") ? BLOB : takes("40000 ") ? TREE : NO_KIND;
                int letter = row.at(place);
                if (kind == NO_KIND || letter <= lastLetter || letter > 'z') {
                    return false;
                }
                place++;
                if (!takes("\0") || !takesNameBytes(kind)) {
                    return false;
                }
                lastLetter = letter;
            }
            return place == row.length;
        }

        private boolean takesCommit() {
            if (!takes("tree ") || !takesNameDigits(TREE) || !takes("\n")) {
                return false;
            }
            for (int i = 0; i < MOST_PARENTS && takes("parent "); i++) {
                if (!takesNameDigits(COMMIT) || !takes("\n")) {
                    return false;
                }
            }
            return takes("\n") && takesNumber() && takes("\n") && place == row.length;
        }

        /** Stays where it is if the text does not stand there. */
        private boolean takes(String text) {
            for (int i = 0; i < text.length(); i++) {
                if (row.at(place + i) != text.charAt(i)) {
                    return false;
                }
            }
            place += text.length();
            return true;
        }

        private boolean takesNameBytes(int kind) {
            if (count >= MOST_ENTRIES || !names[count].takeBytes(row, place)) {
                return false;
            }
            kinds[count] = kind;
            count++;
            place += NAME_BYTES;
            return true;
        }

        private boolean takesNameDigits(int kind) {
            if (count >= MOST_ENTRIES) {
                return false;
            }
            int[] words = names[count].words;
            for (int i = 0; i < NAME_DIGITS; i++) {
                int value = digitValue(row.at(place + i));
                if (value == NONE) {
                    return false;
                }
                words[i / 8] = words[i / 8] << 4 | value;
            }
            kinds[count] = kind;
            count++;
            place += NAME_DIGITS;
            return true;
        }

        private static int digitValue(int character) {
            if (isDecimal(character)) {
                return character - '0';
            }
            if (character >= 'a' && character <= 'f') {
                return character - 'a' + 10;
            }
            return NONE;
        }

        private boolean takesNumber() {
            int first = row.at(place);
            int digits = 0;
            while (digits < MOST_DIGITS && isDecimal(row.at(place + digits))) {
                digits++;
            }
            place += digits;
            return digits == 1 || digits > 1 && first != '0';
        }

        private static boolean isDecimal(int character) {
            return character >= '0' && character <= '9';
        }
    }

    /** A place for each letter keeps the entries in the order of their letters. */
    private static final class EntryList {
        private final boolean[] listed = new boolean[LETTERS];
        private final Name[] names = new Name[LETTERS];
        private int count;

        EntryList() {
            for (int letter = 0; letter < LETTERS; letter++) {
                names[letter] = new Name();
            }
        }

        boolean has(int letter) {
            return letter >= 0 && letter < LETTERS && listed[letter];
        }

        /** Only for a letter that the list has. */
        Name nameOf(int letter) {
            return names[letter];
        }

        boolean add(int letter, Name name) {
            if (letter < 0 || letter >= LETTERS || listed[letter] || count >= MOST_ENTRIES) {
                return false;
            }
            listed[letter] = true;
            names[letter].copyFrom(name);
            count++;
            return true;
        }

        void empty() {
            for (int letter = 0; letter < LETTERS; letter++) {
                listed[letter] = false;
            }
            count = 0;
        }
    }

    private static final class References {
        private static final int MOST_MOVES = 16;
        private static final int NOTE = 3;

        private final int[] held = new int[MOST_REFERENCES];
        // Of each move NOTE numbers, the latest move first. Words of names are noted,
        // not numbers, as the objects may be gone when they are asked for.
        private final int[] notes = new int[MOST_MOVES * NOTE];
        private int moves;

        References() {
            for (int r = 0; r < MOST_REFERENCES; r++) {
                held[r] = NONE;
            }
        }

        int heldBy(int r) {
            return r < 0 || r >= MOST_REFERENCES ? NONE : held[r];
        }

        boolean holds(int r, int k) {
            return r >= 0 && r < MOST_REFERENCES && held[r] == k;
        }

        int allHeld() {
            int set = 0;
            for (int r = 0; r < MOST_REFERENCES; r++) {
                set |= bitOf(held[r]);
            }
            return set;
        }

        /** Only for a reference that there is. */
        void change(int r, int to, int wordBefore, int wordThen) {
            held[r] = to;
            System.arraycopy(notes, 0, notes, NOTE, notes.length - NOTE);
            notes[0] = r;
            notes[1] = wordBefore;
            notes[2] = wordThen;
            if (moves < MOST_MOVES) {
                moves++;
            }
        }

        int noteOf(int k, int w) {
            return k < 0 || k >= moves || w < 0 || w >= NOTE ? NONE : notes[k * NOTE + w];
        }
    }

    private static final class Delta {
        private static final int MOST_IN_PART = 127;
        private static final int COPY = 128;
        private static final int LEAST_COPY = 4;
        // All bytes of the longest content in INSERTs, of which there are two then;
        // each more would need a COPY before it, which saves more than it takes.
        private static final int MOST_DELTA = MOST_CONTENT + 2;

        private final ByteRow parts = new ByteRow(MOST_DELTA);
        private int openInsert;
        private int runPlace;
        private int runLength;

        void make(ByteRow base, ByteRow target) {
            parts.shorten(0);
            openInsert = NONE;
            int place = 0;
            while (place < target.length) {
                seekLongestRun(base, target, place);
                if (runLength >= LEAST_COPY) {
                    addCopy();
                    place += runLength;
                } else {
                    addInserted(target.bytes[place]);
                    place++;
                }
            }
        }

        private void seekLongestRun(ByteRow base, ByteRow target, int place) {
            runLength = 0;
            // Only where a longer run has room, so that the least place stays.
            for (int p = 0; p + runLength < base.length; p++) {
                if (base.bytes[p] == target.bytes[place]) {
                    int n = runAt(base, p, target, place);
                    if (n > runLength) {
                        runLength = n;
                        runPlace = p;
                    }
                }
            }
        }

        private static int runAt(ByteRow base, int p, ByteRow target, int place) {
            int n = 0;
            while (n < MOST_IN_PART && p + n < base.length && place + n < target.length
                && base.bytes[p + n] == target.bytes[place + n]) {
                n++;
            }
            return n;
        }

        private void addCopy() {
            openInsert = NONE;
            parts.add(COPY + runLength);
            parts.add(runPlace);
        }

        private void addInserted(int b) {
            if (openInsert == NONE || parts.at(openInsert) == MOST_IN_PART) {
                openInsert = parts.length;
                parts.add(0);
            }
            parts.change(openInsert, parts.at(openInsert) + 1);
            parts.add(b);
        }

        /** Puts out what the delta at these places of a row says; false if it is none. */
        static boolean putOut(ByteRow row, int from, int end, ByteRow base, ByteRow target) {
            int place = from;
            while (place < end) {
                int n = row.at(place) % COPY;
                boolean isCopy = row.at(place) >= COPY;
                int next = place + (isCopy ? 2 : 1 + n);
                if (n <= 0 || next > end) {
                    return false;
                }
                boolean fits = isCopy
                    ? target.addPart(base, row.at(place + 1), n)
                    : target.addPart(row, place + 1, n);
                if (!fits) {
                    return false;
                }
                place = next;
            }
            return true;
        }
    }

    private static final class PackWriter {
        private static final int BASES = 3;
        private static final int WHOLE_HEAD = 2;
        private static final int DELTA_HEAD = 4;

        // Not the wire itself, which must stay as it is if the pack is too long.
        private final ByteRow row = new ByteRow(MOST_WIRE);
        private final Item[] members = new Item[MOST_OBJECTS];
        private final int[] chains = new int[MOST_OBJECTS];
        private int count;
        private Delta shortest = new Delta();
        private Delta tried = new Delta();

        void gather(Store store, int set) {
            count = 0;
            for (int kind = BLOB; kind >= COMMIT; kind--) {
                for (int k = 0; k < MOST_OBJECTS; k++) {
                    if (hasBit(set, k) && store.holds(k, kind) && count < MOST_OBJECTS) {
                        members[count] = store.itemAt(k);
                        count++;
                    }
                }
            }
        }

        /** False if the pack is too long. */
        boolean write(int depth, Sha1 sha) {
            row.shorten(0);
            row.add(PACK_MARK);
            row.add(count);
            for (int i = 0; i < count; i++) {
                if (!addMember(i, depth)) {
                    return false;
                }
            }
            sha.begin();
            sha.message.addAll(row);
            sha.finish();
            return row.addLowest(PACK_SUM, sha.sum.words[0]);
        }

        private boolean addMember(int i, int depth) {
            Item item = members[i];
            int back = seekBase(i, depth);
            int whole = WHOLE_HEAD + item.content.length;
            if (back != 0 && DELTA_HEAD + shortest.parts.length < whole) {
                chains[i] = chains[i - back] + 1;
                return row.add(DELTA_FROM_MEMBER) && row.add(item.content.length) && row.add(back)
                    && row.add(shortest.parts.length) && row.addAll(shortest.parts);
            }
            chains[i] = 0;
            return row.add(item.kind) && row.add(item.content.length) && row.addAll(item.content);
        }

        /** How many members back the base of the shortest delta is; 0 if there is none. */
        private int seekBase(int i, int depth) {
            int best = 0;
            for (int back = 1; back <= BASES && back <= i; back++) {
                Item base = members[i - back];
                if (base.kind != members[i].kind || chains[i - back] >= depth) {
                    continue;
                }
                tried.make(base.content, members[i].content);
                if (best == 0 || tried.parts.length < shortest.parts.length) {
                    best = back;
                    swapDeltas();
                }
            }
            return best;
        }

        private void swapDeltas() {
            Delta other = shortest;
            shortest = tried;
            tried = other;
        }
    }

    /** Reads a pack into members, which change nothing until they are stored. */
    private static final class PackReader {
        private final Item[] members = new Item[MOST_OBJECTS];
        private int count;
        private ByteRow row;
        private int place;
        private final Name wanted = new Name();
        private final Reading reading = new Reading();

        PackReader() {
            for (int i = 0; i < MOST_OBJECTS; i++) {
                members[i] = new Item();
            }
        }

        /** False if the row is no pack. */
        boolean read(ByteRow packed, Store store, Sha1 sha) {
            row = packed;
            place = 0;
            count = 0;
            if (nextByte() != PACK_MARK) {
                return false;
            }
            int announced = nextByte();
            if (announced < 1 || announced > MOST_OBJECTS) {
                return false;
            }
            for (int i = 0; i < announced; i++) {
                if (!readMember(store) || !reading.understands(members[i])) {
                    return false;
                }
                members[i].giveName(sha);
                count++;
            }
            return sumIsRight(sha);
        }

        /** NONE behind the end. */
        private int nextByte() {
            int b = row.at(place);
            place++;
            return b;
        }

        private boolean readMember(Store store) {
            int kind = nextByte();
            int length = nextByte();
            switch (kind) {
                case COMMIT:
                case TREE:
                case BLOB:
                    return readWhole(kind, length);
                case DELTA_FROM_MEMBER:
                    return readDelta(memberBack(nextByte()), length);
                case DELTA_FROM_NAMED:
                    return readDelta(namedBase(store), length);
                default:
                    return false;
            }
        }

        private boolean readWhole(int kind, int length) {
            Item member = members[count];
            member.begin(kind);
            if (!member.content.addPart(row, place, length)) {
                return false;
            }
            place += length;
            return true;
        }

        /** Null if there is none. */
        private Item memberBack(int d) {
            return d < 1 || d > count ? null : members[count - d];
        }

        /** Null if there is none. */
        private Item namedBase(Store store) {
            if (!wanted.takeBytes(row, place)) {
                return null;
            }
            place += NAME_BYTES;
            int i = memberNamed(wanted, count);
            return i != NONE ? members[i] : store.itemAt(store.numberOf(wanted));
        }

        private int memberNamed(Name name, int end) {
            for (int i = 0; i < end; i++) {
                if (members[i].name.isSame(name)) {
                    return i;
                }
            }
            return NONE;
        }

        private boolean readDelta(Item base, int length) {
            int deltaLength = nextByte();
            int end = place + deltaLength;
            if (base == null || deltaLength == NONE || end > row.length) {
                return false;
            }
            Item member = members[count];
            member.begin(base.kind);
            if (!Delta.putOut(row, place, end, base.content, member.content)) {
                return false;
            }
            place = end;
            return member.content.length == length;
        }

        private boolean sumIsRight(Sha1 sha) {
            if (place + PACK_SUM != row.length) {
                return false;
            }
            sha.begin();
            sha.message.addPart(row, 0, place);
            sha.finish();
            int word = 0;
            for (int i = 0; i < PACK_SUM; i++) {
                word = word << 8 | nextByte();
            }
            return word == sha.sum.words[0];
        }

        boolean lacksNamed(Store store) {
            for (int i = 0; i < count; i++) {
                reading.understands(members[i]);
                for (int j = 0; j < reading.count; j++) {
                    if (!isThere(reading.names[j], reading.kinds[j], store)) {
                        return true;
                    }
                }
            }
            return false;
        }

        /** Every member is asked, as one of another kind with that name says nothing of the rest. */
        private boolean isThere(Name name, int kind, Store store) {
            for (int i = 0; i < count; i++) {
                if (members[i].kind == kind && members[i].name.isSame(name)) {
                    return true;
                }
            }
            return store.holds(store.numberOf(name), kind);
        }

        int countFresh(Store store) {
            int fresh = 0;
            for (int i = 0; i < count; i++) {
                Name name = members[i].name;
                if (store.numberOf(name) == NONE && memberNamed(name, i) == NONE) {
                    fresh++;
                }
            }
            return fresh;
        }

        void storeAll(Store store) {
            for (int i = 0; i < count; i++) {
                store.keep(members[i]);
            }
            for (int i = 0; i < count; i++) {
                store.link(store.numberOf(members[i].name));
            }
        }
    }
}
