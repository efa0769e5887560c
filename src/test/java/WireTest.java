/** Promises 18 to 20: the wire. */
public final class WireTest {
    private static final int NONE = ObjectDepot.NONE;

    public static void main(String[] args) {
        feedAddsLowestBytes();
        feedRefuses();
        alterChangesOneByte();
        alterTakesOff();
        alterRefuses();
        wireTells();
        Check.end();
    }

    private static void wireIs(String what, ObjectDepot x, int... bytes) {
        Check.same(what + ": length", x.wire(-1), bytes.length);
        for (int i = 0; i < bytes.length; i++) {
            Check.same(what + ": byte " + i, x.wire(i), bytes[i]);
        }
    }

    private static void feedAddsLowestBytes() {
        ObjectDepot x = new ObjectDepot();
        Check.yes("feed 3", x.feed(3, 0x1122334455667788L));
        wireIs("feed 3", x, 0x66, 0x77, 0x88);
        Check.yes("feed 8", x.feed(8, 0xfedcba9876543210L));
        wireIs("feed 8", x, 0x66, 0x77, 0x88, 0xfe, 0xdc, 0xba, 0x98, 0x76, 0x54, 0x32, 0x10);
        Check.same("the buffer is another row", x.object(x.blob(), 1), 0);
    }

    private static void feedRefuses() {
        ObjectDepot x = new ObjectDepot();
        for (int n : new int[] {0, -1, 9, Integer.MIN_VALUE, Integer.MAX_VALUE}) {
            Check.no("feed " + n, x.feed(n, 1));
        }
        Check.same("nothing was fed", x.wire(-1), 0);
        for (int i = 0; i < 74; i++) {
            x.feed(8, i);
        }
        Check.yes("up to 599", x.feed(7, 1));
        Check.no("over 600", x.feed(2, 1));
        Check.same("599", x.wire(-1), 599);
        Check.yes("up to 600", x.feed(1, 77));
        Check.no("a 601st", x.feed(1, 1));
        Check.same("600", x.wire(-1), 600);
        Check.same("the last", x.wire(599), 77);
    }

    private static void alterChangesOneByte() {
        ObjectDepot x = new ObjectDepot();
        x.feed(4, 0x01020304);
        Check.yes("first", x.alter(0, 255));
        Check.yes("last", x.alter(3, 0));
        Check.yes("middle", x.alter(1, 128));
        wireIs("altered", x, 255, 128, 3, 0);
    }

    private static void alterTakesOff() {
        ObjectDepot x = new ObjectDepot();
        x.feed(6, 0x010203040506L);
        Check.yes("the last", x.alter(5, -1));
        wireIs("one off", x, 1, 2, 3, 4, 5);
        Check.yes("from the middle", x.alter(2, -1));
        wireIs("three off", x, 1, 2);
        Check.yes("feed goes on there", x.feed(1, 9));
        wireIs("fed again", x, 1, 2, 9);
        Check.yes("all", x.alter(0, -1));
        wireIs("all off", x);
    }

    private static void alterRefuses() {
        ObjectDepot x = new ObjectDepot();
        Check.no("the empty wire", x.alter(0, -1));
        Check.no("the empty wire", x.alter(0, 1));
        x.feed(2, 0x0102);
        for (int k : new int[] {-1, 2, 600, Integer.MIN_VALUE, Integer.MAX_VALUE}) {
            Check.no("alter byte " + k, x.alter(k, 7));
            Check.no("cut at " + k, x.alter(k, -1));
        }
        for (int b : new int[] {-2, 256, Integer.MIN_VALUE, Integer.MAX_VALUE}) {
            Check.no("alter to " + b, x.alter(0, b));
        }
        wireIs("unaltered", x, 1, 2);
    }

    private static void wireTells() {
        ObjectDepot x = new ObjectDepot();
        Check.same("the empty wire's length", x.wire(-1), 0);
        Check.same("the empty wire's first byte", x.wire(0), NONE);
        x.feed(2, 0xff00);
        wireIs("two", x, 255, 0);
        for (int k : new int[] {-2, 2, 600, Integer.MIN_VALUE, Integer.MAX_VALUE}) {
            Check.same("wire(" + k + ")", x.wire(k), NONE);
        }
    }
}
