/** The edges that the document names in Promises 18 to 20: a test for each sentence. */
public final class EdgesOfWireTest {
    private static final int NONE = ObjectDepot.NONE;
    private static final int[] FAR = {Integer.MIN_VALUE, -256, -2, 256, 1 << 16, Integer.MAX_VALUE};

    public static void main(String[] args) {
        feedTakesOneToEight();
        feedTakesUpTo600();
        feedTakesLowestBytes();
        alterTakesBytesOfTheWire();
        alterTakes0To255();
        alterTakesOff();
        alterOfFullWire();
        alterOfEmptyWire();
        wireTellsItsLength();
        wireTellsItsBytes();
        Check.end();
    }

    /** "false if n is not 1 .. 8". */
    private static void feedTakesOneToEight() {
        for (int n = 1; n <= 8; n++) {
            int bytes = n;
            ObjectDepot x = Edge.taken("feed " + n, Setups::mixed, y -> y.feed(bytes, 5), true);
            Check.same("feed " + n + ": bytes", x.wire(-1), 5 + n);
            Check.same("feed " + n + ": the last", x.wire(4 + n), 5);
        }
        Edge.refused("feed 0", Setups::mixed, x -> x.feed(0, 5), false);
        Edge.refused("feed -1", Setups::mixed, x -> x.feed(-1, 5), false);
        Edge.refused("feed 9", Setups::mixed, x -> x.feed(9, 5), false);
        for (int n : FAR) {
            Edge.refused("feed " + n, Setups::mixed, x -> x.feed(n, 5), false);
            Edge.refused("feed " + (n + 1), Setups::mixed, x -> x.feed(n + 1, 5), false);
        }
    }

    /** "false if .. there would be more than 600". */
    private static void feedTakesUpTo600() {
        for (int n = 1; n <= 8; n++) {
            int bytes = n;
            ObjectDepot x = Edge.taken("feed " + n + " up to 600", y -> Setups.feed(y, 600 - bytes),
                y -> y.feed(bytes, 7), true);
            Check.same("feed " + n + " up to 600: bytes", x.wire(-1), 600);
            Check.same("feed " + n + " up to 600: the last", x.wire(599), 7);
            for (int there = 601 - n; there <= 600; there++) {
                int before = there;
                Edge.refused("feed " + n + " behind " + there, y -> Setups.feed(y, before), y -> y.feed(bytes, 7), false);
            }
        }
    }

    /** "The n lowest bytes of bytes, the highest of them first"; "BYTES are 0 .. 255". */
    private static void feedTakesLowestBytes() {
        long[] all = {0, -1, Long.MIN_VALUE, Long.MAX_VALUE, 0x80_7f_ff_00_01_fe_81_82L, 255, 256};
        for (long bytes : all) {
            for (int n = 1; n <= 8; n++) {
                ObjectDepot x = new ObjectDepot();
                x.feed(n, bytes);
                for (int i = 0; i < n; i++) {
                    int due = (int) Long.divideUnsigned(bytes, 1L << 8 * (n - 1 - i)) & 255;
                    Check.same("feed(" + n + ", " + bytes + "): byte " + i, x.wire(i), due);
                }
                Check.same("feed(" + n + ", " + bytes + "): no more", x.wire(-1), n);
            }
        }
    }

    /** "false if there is no byte k". */
    private static void alterTakesBytesOfTheWire() {
        for (int k : new int[] {0, 4}) {
            ObjectDepot x = Edge.taken("byte " + k, Setups::mixed, y -> y.alter(k, 200), true);
            Check.same("byte " + k + " then", x.wire(k), 200);
            Check.same("the length then", x.wire(-1), 5);
        }
        for (int b : new int[] {-1, 0, 200, 255}) {
            Edge.refused("byte -1", Setups::mixed, x -> x.alter(-1, b), false);
            Edge.refused("byte 5 of five", Setups::mixed, x -> x.alter(5, b), false);
            for (int k : FAR) {
                Edge.refused("byte " + k, Setups::mixed, x -> x.alter(k, b), false);
            }
        }
    }

    /** "false if .. b is not -1 .. 255". */
    private static void alterTakes0To255() {
        for (int b : new int[] {0, 1, 127, 128, 254, 255}) {
            ObjectDepot x = Edge.taken("to " + b, Setups::mixed, y -> y.alter(2, b), true);
            int[] due = {0x50, 1, b, 0, 0x41};
            for (int k = 0; k < 5; k++) {
                Check.same("byte " + k + " then", x.wire(k), due[k]);
            }
            Check.same("the length then", x.wire(-1), 5);
        }
        for (int k : new int[] {0, 2, 4}) {
            Edge.refused("to -2", Setups::mixed, x -> x.alter(k, -2), false);
            Edge.refused("to 256", Setups::mixed, x -> x.alter(k, 256), false);
            for (int b : FAR) {
                Edge.refused("to " + b, Setups::mixed, x -> x.alter(k, b), false);
            }
        }
    }

    /** "if b is -1 it and all behind it are taken off". */
    private static void alterTakesOff() {
        int[] before = {0x50, 1, 3, 0, 0x41};
        for (int k = 0; k < 5; k++) {
            int from = k;
            ObjectDepot x = Edge.taken("off from " + k, Setups::mixed, y -> y.alter(from, -1), true);
            Check.same("the length then", x.wire(-1), k);
            for (int i = 0; i < k; i++) {
                Check.same("byte " + i + " stays", x.wire(i), before[i]);
            }
            Check.same("byte " + k + " is off", x.wire(k), NONE);
            Check.no("it cannot be altered", x.alter(k, 1));
            Check.yes("feed goes on there", x.feed(1, 9));
            Check.same("byte " + k + " is new", x.wire(k), 9);
            Check.same("what was behind it stays off", x.wire(k + 1), NONE);
        }
    }

    private static void alterOfFullWire() {
        ObjectDepot x = Edge.taken("the last of 600", y -> Setups.feed(y, 600), y -> y.alter(599, 3), true);
        Check.same("it is altered", x.wire(599), 3);
        Edge.refused("byte 600", y -> Setups.feed(y, 600), y -> y.alter(600, 3), false);
        Edge.refused("off from 600", y -> Setups.feed(y, 600), y -> y.alter(600, -1), false);
        x = Edge.taken("the last of 600 off", y -> Setups.feed(y, 600), y -> y.alter(599, -1), true);
        Check.same("599 are left", x.wire(-1), 599);
        Check.yes("one fits again", x.feed(1, 1));
        x = Edge.taken("all 600 off", y -> Setups.feed(y, 600), y -> y.alter(0, -1), true);
        Check.same("none is left", x.wire(-1), 0);
    }

    private static void alterOfEmptyWire() {
        for (int b : new int[] {-1, 0, 255}) {
            Edge.refused("byte 0 of none", Setups::objects, x -> x.alter(0, b), false);
            Edge.refused("byte -1 of none", Setups::objects, x -> x.alter(-1, b), false);
        }
    }

    /** "how many there are, if k is -1". */
    private static void wireTellsItsLength() {
        for (int n : new int[] {0, 1, 255, 256, 599, 600}) {
            Edge.taken("length " + n, x -> Setups.feed(x, n), x -> x.wire(-1), n);
        }
    }

    /** "Byte k of the wire; .. NONE if there is none such". */
    private static void wireTellsItsBytes() {
        Edge.taken("byte 0", Setups::mixed, x -> x.wire(0), 0x50);
        Edge.taken("byte 4 of five", Setups::mixed, x -> x.wire(4), 0x41);
        Edge.refused("byte 5 of five", Setups::mixed, x -> x.wire(5), NONE);
        Edge.refused("byte -2", Setups::mixed, x -> x.wire(-2), NONE);
        Edge.refused("byte 0 of none", Setups::objects, x -> x.wire(0), NONE);
        Edge.taken("byte 599", x -> Setups.feed(x, 600), x -> x.wire(599), 599 & 255);
        Edge.refused("byte 600", x -> Setups.feed(x, 600), x -> x.wire(600), NONE);
        for (int k : FAR) {
            Edge.refused("byte " + k, Setups::mixed, x -> x.wire(k), NONE);
        }
        Edge.taken("byte 255 of a full wire", x -> Setups.feed(x, 600), x -> x.wire(255), 255);
        Edge.taken("byte 256 of a full wire", x -> Setups.feed(x, 600), x -> x.wire(256), 0);
    }
}
