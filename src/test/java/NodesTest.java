/** Promises 1, 2, 3, 9, 10, 11, 12, 19, 20, 21 and 22: nodes, their machines and their logs. */
public final class NodesTest {
    private static final int[] NO_NUMBERS = {-1, 6, 7, 100, Integer.MIN_VALUE, Integer.MAX_VALUE};

    public static void main(String[] args) {
        promise01NewObject();
        promise02OpenSizes();
        promise02OpenForgetsAll();
        promise03Machine();
        promise03FarNodes();
        promise03Full();
        promise03Wrong();
        promise09Lie();
        promise09Wrong();
        promise10Bend();
        promise11Cut();
        promise12Hide();
        promise19Entry();
        promise20Head();
        promise21About();
        promise22Total();
        Check.end();
    }

    private static void lookAtFirst(TellTale x, int nodes) {
        Check.due("total(0)", x.total(0), 0);
        Check.due("total(1)", x.total(1), 0);
        Check.due("total(2)", x.total(2), 0);
        Check.due("total(3)", x.total(3), nodes);
        for (int i = 0; i < nodes; i++) {
            for (int what = 0; what <= 4; what++) {
                Check.due("about(" + i + ", " + what + ")", x.about(i, what), 0);
            }
            Check.due("head(" + i + ", 0)", x.head(i, 0), 0);
            Check.due("hide(" + i + ", false)", x.hide(i, false), false);
            final int node = i;
            Check.iae("entry(" + i + ", 1, 0)", () -> x.entry(node, 1, 0));
            Check.iae("head(" + i + ", 1)", () -> x.head(node, 1));
            for (int j = 0; j < nodes; j++) {
                if (j != i) {
                    Check.due("verdict(" + i + ", " + j + ")", x.verdict(i, j), 0);
                }
            }
        }
        Check.iae("about of one node more", () -> x.about(nodes, 0));
        Check.iae("deliver(0)", () -> x.deliver(0));
        Check.iae("holds(0)", () -> x.holds(0));
    }

    private static void promise01NewObject() {
        Check.part("promise 1");
        TellTale x = new TellTale();
        lookAtFirst(x, 3);
        Check.due("NONE", TellTale.NONE, -1);
        TellTale used = new TellTale();
        used.input(0, 2);
        Check.due("another object's log", new TellTale().about(0, 0), 0);
        Check.due("another object's letters", x.total(0), 0);
    }

    private static void promise02OpenSizes() {
        Check.part("promise 2, sizes");
        for (int nodes = 3; nodes <= 6; nodes++) {
            TellTale x = new TellTale();
            x.open(nodes);
            lookAtFirst(x, nodes);
        }
        for (int bad : new int[] {2, 7, 0, 1, -3, Integer.MIN_VALUE, Integer.MAX_VALUE}) {
            TellTale x = new TellTale();
            x.open(4);
            x.input(3, 2);
            Check.iae("open(" + bad + ")", () -> x.open(bad));
            Check.due("nodes after open(" + bad + ")", x.total(3), 4);
            Check.due("log after open(" + bad + ")", x.about(3, 0), 2);
            Check.due("letters after open(" + bad + ")", x.total(0), 1);
        }
    }

    private static void promise02OpenForgetsAll() {
        Check.part("promise 2, all as at first");
        TellTale x = new TellTale();
        x.open(6);
        x.lie(0, 1, 5);
        x.copy(0);
        x.deliver(0);
        x.input(5, 9);
        x.audit(1, 0);
        Check.due("evidence", x.total(2), 1);
        x.hide(5, true);
        x.audit(0, 5);
        Check.due("verdict of a hiding node", x.verdict(0, 5), 1);
        x.open(5);
        lookAtFirst(x, 5);
        Check.iae("node 5 of 5", () -> x.about(5, 0));
        x.open(6);
        lookAtFirst(x, 6);
        x.lie(0, 1, 5);
        Check.due("the same message, after open", x.deliver(0), true);
        Check.due("kept after open", x.about(1, 3), 1);
        Check.due("forward after open", x.forward(1), 1);
        Check.due("audit after open", x.audit(1, 0), 2);
        Check.due("number of the first evidence", x.byteOf(0, 3), 1);
        Check.due("evidence after open", x.total(2), 1);
    }

    private static void promise03Machine() {
        Check.part("promise 3, machine");
        int[] inputs = {2, 1, -5, 1000, Integer.MIN_VALUE, 77777777, Integer.MAX_VALUE, -1, 0, 123456789};
        TellTale x = new TellTale();
        x.open(5);
        int a = 0;
        int entries = 0;
        int letters = 0;
        for (int value : inputs) {
            a = 31 * a + value;
            int got = x.input(2, value);
            entries++;
            Check.due("kind of input " + value, x.entry(2, entries, 0), 1);
            Check.due("who of input " + value, x.entry(2, entries, 1), 0);
            Check.due("value of input " + value, x.entry(2, entries, 2), value);
            if (a % 2 == 0) {
                entries++;
                letters++;
                Check.due("kind of sending behind " + value, x.entry(2, entries, 0), 3);
                Check.due("who of sending behind " + value, x.entry(2, entries, 1), Sums.inputSendsTo(2, a, 5));
                Check.due("value of sending behind " + value, x.entry(2, entries, 2), Sums.inputSendsValue(a, 0));
            }
            Check.due("input(2, " + value + ")", got, entries);
            Check.due("A after " + value, x.about(2, 1), a);
            Check.due("B after " + value, x.about(2, 2), 0);
            Check.due("letters after " + value, x.total(0), letters);
        }
    }

    // Each of the 128 distances that A can tell, on either sign, for each number of nodes.
    private static void promise03FarNodes() {
        Check.part("promise 3, to whom");
        for (int nodes = 3; nodes <= 6; nodes++) {
            for (int node = 0; node < nodes; node++) {
                TellTale x = new TellTale();
                x.open(nodes);
                for (int i = 0; i < 75; i++) {
                    int a = (i * 5 + node) << 8 | (i % 2 == 0 ? 0 : Integer.MIN_VALUE) | 2 * i;
                    x.input(node, a - 31 * x.about(node, 1));
                    Check.due("who of sending with A = " + a, x.entry(node, 2 * i + 2, 1), Sums.inputSendsTo(node, a, nodes));
                    Check.due("value of sending with A = " + a, x.entry(node, 2 * i + 2, 2), a >>> 1);
                }
            }
        }
        Check.part("promise 3, B in what is sent");
        TellTale x = new TellTale();
        x.lie(0, 1, 1 << 28);
        x.deliver(0);
        int b = Sums.receipt(0, 1 << 28, 0);
        Check.due("B", x.about(1, 2), b);
        x.input(1, 6);
        Check.due("value of sending with B", x.entry(1, x.about(1, 0), 2), 3 ^ b);
    }

    private static void promise03Full() {
        Check.part("promise 3, full log");
        TellTale x = new TellTale();
        for (int i = 1; i <= 149; i++) {
            Check.due("input number " + i, x.input(1, i == 1 ? 1 : -31 * x.about(1, 1) + 1), i);
        }
        Check.ise("input with one place left", () -> x.input(1, 0));
        Check.iae("input of no node", () -> x.input(3, 0));
        Check.due("log with one place left", x.about(1, 0), 149);
        Check.due("A with one place left", x.about(1, 1), 1);
        Check.ise("lie with one place left", () -> x.lie(1, 0, 0));
        Check.iae("lie to itself with one place left", () -> x.lie(1, 1, 0));
        Check.due("letters with one place left", x.total(1), 0);
        x.cut(1, 148);
        Check.due("input with two places left", x.input(1, -31 + 2), 150);
        Check.ise("input with no place left", () -> x.input(1, 1));
        Check.due("A with no place left", x.about(1, 1), 2);
        Check.due("another node's log", x.input(0, 1), 1);
    }

    private static void promise03Wrong() {
        Check.part("promise 3, wrong");
        TellTale x = new TellTale();
        for (int bad : NO_NUMBERS) {
            Check.iae("input(" + bad + ", 2)", () -> x.input(bad, 2));
        }
        Check.iae("input(3, 2)", () -> x.input(3, 2));
        Check.due("sent", x.total(1), 0);
        x.open(6);
        Check.due("input(5, 2)", x.input(5, 2), 2);
    }

    private static void promise09Lie() {
        Check.part("promise 9");
        TellTale x = new TellTale();
        x.open(4);
        x.input(2, 3);
        Check.due("lie(2, 0, -7)", x.lie(2, 0, -7), 2);
        Check.due("kind", x.entry(2, 2, 0), 3);
        Check.due("who", x.entry(2, 2, 1), 0);
        Check.due("value", x.entry(2, 2, 2), -7);
        Check.due("A", x.about(2, 1), 3);
        Check.due("B", x.about(2, 2), 0);
        Check.due("letters", x.total(0), 1);
        Check.due("sent", x.total(1), 1);
        Check.due("deliver", x.deliver(0), true);
        Check.due("receipt's who", x.entry(0, 1, 1), 2);
        Check.due("receipt's value", x.entry(0, 1, 2), -7);
        Check.due("B of the receiver", x.about(0, 2), Sums.receipt(0, -7, 2));
        TellTale full = new TellTale();
        for (int i = 1; i <= 149; i++) {
            Check.due("lie number " + i, full.lie(0, 1 + i % 2, i), i);
        }
        Check.ise("lie with one place left", () -> full.lie(0, 1, 0));
        Check.due("sent by lies", full.total(1), 149);
        full.cut(0, 148);
        Check.due("lie with two places left", full.lie(0, 1, 0), 149);
    }

    private static void promise09Wrong() {
        Check.part("promise 9, wrong");
        TellTale x = new TellTale();
        for (int bad : NO_NUMBERS) {
            Check.iae("lie(" + bad + ", 1, 5)", () -> x.lie(bad, 1, 5));
            Check.iae("lie(1, " + bad + ", 5)", () -> x.lie(1, bad, 5));
        }
        Check.iae("lie(3, 0, 5)", () -> x.lie(3, 0, 5));
        Check.iae("lie(0, 3, 5)", () -> x.lie(0, 3, 5));
        for (int i = 0; i < 3; i++) {
            final int node = i;
            Check.iae("lie to itself", () -> x.lie(node, node, 5));
            Check.due("log", x.about(i, 0), 0);
        }
        Check.due("sent", x.total(1), 0);
    }

    private static void promise10Bend() {
        Check.part("promise 10");
        TellTale x = new TellTale();
        x.input(0, 2);
        x.input(0, 5);
        int a = x.about(0, 1);
        int[][] entries = {{1, 0, 2}, {3, 1, 1}, {1, 0, 5}};
        Check.due("entries", x.about(0, 0), 3);
        heads(x, 0, entries);
        Check.due("bend(0, 2, -9)", x.bend(0, 2, -9), 1);
        entries[1][2] = -9;
        heads(x, 0, entries);
        Check.due("bent value", x.entry(0, 2, 2), -9);
        Check.due("bend(0, 2, 4)", x.bend(0, 2, 4), -9);
        Check.due("bend(0, 3, 6)", x.bend(0, 3, 6), 5);
        Check.due("bend(0, 1, 7)", x.bend(0, 1, 7), 2);
        heads(x, 0, new int[][] {{1, 0, 7}, {3, 1, 4}, {1, 0, 6}});
        Check.due("A stays", x.about(0, 1), a);
        Check.due("the letter stays", x.deliver(0), true);
        Check.due("its value stays", x.entry(1, 1, 2), 1);
        Check.iae("bend(0, 0, 1)", () -> x.bend(0, 0, 1));
        Check.iae("bend(0, 4, 1)", () -> x.bend(0, 4, 1));
        Check.iae("bend(0, -1, 1)", () -> x.bend(0, -1, 1));
        Check.iae("bend(3, 1, 1)", () -> x.bend(3, 1, 1));
        Check.iae("bend(-1, 1, 1)", () -> x.bend(-1, 1, 1));
        Check.iae("bend(2, 1, 1) of an empty log", () -> x.bend(2, 1, 1));
        x.cut(0, 2);
        Check.iae("bend of what was cut", () -> x.bend(0, 3, 1));
        heads(x, 0, new int[][] {{1, 0, 7}, {3, 1, 4}});
        x.input(0, -31 * a + 3);
        heads(x, 0, new int[][] {{1, 0, 7}, {3, 1, 4}, {1, 0, -31 * a + 3}});
    }

    private static void heads(TellTale x, int node, int[][] entries) {
        for (int k = 0; k <= entries.length; k++) {
            Check.due("head(" + node + ", " + k + ")", x.head(node, k), Sums.head(entries, k));
        }
    }

    private static void promise11Cut() {
        Check.part("promise 11");
        TellTale x = new TellTale();
        x.input(0, 2);
        x.input(0, 4);
        int a = x.about(0, 1);
        Check.due("cut(0, 4)", x.cut(0, 4), 0);
        Check.due("cut(0, 1)", x.cut(0, 1), 3);
        Check.due("entries", x.about(0, 0), 1);
        Check.due("A stays", x.about(0, 1), a);
        Check.due("letters stay", x.total(0), 2);
        Check.iae("entry that is gone", () -> x.entry(0, 2, 0));
        Check.iae("head that is gone", () -> x.head(0, 2));
        Check.iae("cut(0, 2)", () -> x.cut(0, 2));
        Check.iae("cut(0, -1)", () -> x.cut(0, -1));
        Check.iae("cut(3, 0)", () -> x.cut(3, 0));
        Check.iae("cut(-1, 0)", () -> x.cut(-1, 0));
        Check.due("entries still", x.about(0, 0), 1);
        Check.due("cut(0, 0)", x.cut(0, 0), 1);
        Check.due("cut(0, 0) again", x.cut(0, 0), 0);
        x.input(0, 1 - 31 * a);
        heads(x, 0, new int[][] {{1, 0, 1 - 31 * a}});
        Check.due("A goes on", x.about(0, 1), 1);
    }

    private static void promise12Hide() {
        Check.part("promise 12");
        TellTale x = new TellTale();
        Check.due("hide(1, true)", x.hide(1, true), false);
        Check.due("hide(1, true) again", x.hide(1, true), true);
        Check.due("another node", x.hide(0, false), false);
        Check.due("audit of a hiding node", x.audit(2, 1), 1);
        Check.due("hide(1, false)", x.hide(1, false), true);
        Check.due("hide(1, false) again", x.hide(1, false), false);
        Check.due("audit of one that hides no more", x.audit(2, 1), 0);
        Check.iae("hide(3, true)", () -> x.hide(3, true));
        Check.iae("hide(-1, true)", () -> x.hide(-1, true));
    }

    private static void promise19Entry() {
        Check.part("promise 19");
        TellTale x = new TellTale();
        x.input(0, 2);
        x.deliver(0);
        int[][] of1 = {{2, 0, 1}, {3, 0, 32}};
        Check.due("entries of 1", x.about(1, 0), 2);
        for (int k = 1; k <= 2; k++) {
            for (int what = 0; what <= 2; what++) {
                Check.due("entry(1, " + k + ", " + what + ")", x.entry(1, k, what), of1[k - 1][what]);
            }
        }
        Check.iae("entry(1, 0, 0)", () -> x.entry(1, 0, 0));
        Check.iae("entry(1, 3, 0)", () -> x.entry(1, 3, 0));
        Check.iae("entry(1, -1, 0)", () -> x.entry(1, -1, 0));
        Check.iae("entry(1, 1, 3)", () -> x.entry(1, 1, 3));
        Check.iae("entry(1, 1, -1)", () -> x.entry(1, 1, -1));
        Check.iae("entry(3, 1, 0)", () -> x.entry(3, 1, 0));
        Check.iae("entry(-1, 1, 0)", () -> x.entry(-1, 1, 0));
        Check.iae("entry(1, MAX, 0)", () -> x.entry(1, Integer.MAX_VALUE, 0));
    }

    private static void promise20Head() {
        Check.part("promise 20");
        TellTale x = new TellTale();
        Check.due("head(2, 0)", x.head(2, 0), 0);
        x.input(0, 2);
        x.input(0, -31 * 2 - 4);
        x.deliver(0);
        heads(x, 0, new int[][] {{1, 0, 2}, {3, 1, 1}, {1, 0, -66}, {3, Sums.inputSendsTo(0, -4, 3), -4 >>> 1}});
        heads(x, 1, new int[][] {{2, 0, 1}, {3, 0, 32}});
        Check.iae("head(0, 5)", () -> x.head(0, 5));
        Check.iae("head(0, -1)", () -> x.head(0, -1));
        Check.iae("head(3, 0)", () -> x.head(3, 0));
        Check.iae("head(-1, 0)", () -> x.head(-1, 0));
    }

    private static void promise21About() {
        Check.part("promise 21");
        TellTale x = new TellTale();
        x.input(0, 2);
        x.input(2, 4);
        x.copy(0);
        x.deliver(0);
        x.deliver(0);
        int[] of1 = {2, 0, Sums.receipt(0, 1, 0), 1, 1};
        for (int what = 0; what <= 4; what++) {
            Check.due("about(1, " + what + ")", x.about(1, what), of1[what]);
        }
        Check.due("A of 0", x.about(0, 1), 2);
        x.audit(1, 2);
        Check.due("kept after an audit", x.about(1, 3), 2);
        Check.due("taken after an audit", x.about(1, 4), 1);
        Check.iae("about(0, 5)", () -> x.about(0, 5));
        Check.iae("about(0, -1)", () -> x.about(0, -1));
        Check.iae("about(3, 0)", () -> x.about(3, 0));
        Check.iae("about(-1, 0)", () -> x.about(-1, 0));
        x.cut(1, 0);
        Check.due("taken after a cut", x.about(1, 4), 1);
    }

    private static void promise22Total() {
        Check.part("promise 22");
        TellTale x = new TellTale();
        x.open(5);
        x.input(0, 2);
        x.copy(0);
        x.lie(1, 3, 1 << 28);
        Check.due("letters", x.total(0), 3);
        Check.due("sent, copies not", x.total(1), 2);
        x.drop(0);
        x.deliver(1);
        Check.due("letters left", x.total(0), 1);
        Check.due("sent, gone ones too", x.total(1), 2);
        Check.due("notes", x.forward(3), 1);
        Check.due("sent, notes too", x.total(1), 3);
        x.audit(3, 1);
        Check.due("evidence", x.total(2), 1);
        Check.due("nodes", x.total(3), 5);
        Check.iae("total(4)", () -> x.total(4));
        Check.iae("total(-1)", () -> x.total(-1));
        Check.iae("total(MIN)", () -> x.total(Integer.MIN_VALUE));
    }
}
