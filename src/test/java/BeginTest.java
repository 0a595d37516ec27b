/** Promises 1 and 2: a new object, and open(). Behind each // the sentence of the document that the test holds to. */
public final class BeginTest {
    private static final int SILENT = Scenes.SILENT;

    public static void main(String[] args) {
        Check.all(BeginTest.class);
    }

    // NONE = -1
    static void promise01None() {
        Check.due("NONE", TellTale.NONE, -1);
    }

    // Three nodes
    static void promise01ThreeNodes() {
        TellTale x = new TellTale();
        Check.due("nodes", x.total(3), 3);
        Check.due("node 2's log", x.about(2, 0), 0);
        Check.iae("about(3, 0)", () -> x.about(3, 0));
        Check.iae("about(-1, 0)", () -> x.about(-1, 0));
    }

    // empty logs
    static void promise01EmptyLogs() {
        logsAreEmpty(new TellTale(), 3);
    }

    // everybody is trusted
    static void promise01EverybodyIsTrusted() {
        everybodyIsTrusted(new TellTale(), 3);
    }

    // A node's MACHINE has registers A and B of 32 bits, 0 at first.
    static void promise01RegistersAreZero() {
        registersAreZero(new TellTale(), 3);
    }

    // Nothing was sent, kept, taken or found, and nobody hides.
    static void promise01NothingElse() {
        nothingElse(new TellTale(), 3);
    }

    static void promise01ObjectsAreApart() {
        TellTale used = Scenes.busy();
        Twins.alike("use of another object", new TellTale(), new TellTale());
        TellTale other = new TellTale();
        Check.due("another object's log", other.about(0, 0), 0);
        Check.due("another object's letters", other.total(0), 0);
        other.open(6);
        Check.due("nodes of the used one", used.total(3), 4);
        Check.due("letters of the used one", used.total(0), 4);
    }

    // NODES are 0 .. n - 1, n 3 to 6.
    static void promise02ThreeAreTheFewest() {
        opensFor(3);
    }

    static void promise02SixAreTheMost() {
        opensFor(6);
    }

    static void promise02FourAndFive() {
        opensFor(4);
        opensFor(5);
    }

    private static void opensFor(int nodes) {
        TellTale x = Scenes.opened(nodes);
        allIsAsAtFirst(x, nodes);
        Check.due("input of the last node", x.input(nodes - 1, 1), 1);
        Check.iae("input of one node more", () -> x.input(nodes, 1));
    }

    private static void allIsAsAtFirst(TellTale x, int nodes) {
        Check.due("nodes", x.total(3), nodes);
        logsAreEmpty(x, nodes);
        registersAreZero(x, nodes);
        nothingElse(x, nodes);
        everybodyIsTrusted(x, nodes);
    }

    private static void logsAreEmpty(TellTale x, int nodes) {
        for (int i = 0; i < nodes; i++) {
            int node = i;
            Check.due("entries of " + i, x.about(i, 0), 0);
            Check.due("head(" + i + ", 0)", x.head(i, 0), 0);
            Check.iae("entry(" + i + ", 1, 0)", () -> x.entry(node, 1, 0));
            Check.iae("head(" + i + ", 1)", () -> x.head(node, 1));
        }
    }

    private static void registersAreZero(TellTale x, int nodes) {
        for (int i = 0; i < nodes; i++) {
            Check.due("A of " + i, x.about(i, 1), 0);
            Check.due("B of " + i, x.about(i, 2), 0);
        }
    }

    private static void nothingElse(TellTale x, int nodes) {
        Check.due("letters", x.total(0), 0);
        Check.due("sent", x.total(1), 0);
        Check.due("evidence", x.total(2), 0);
        for (int i = 0; i < nodes; i++) {
            Check.due("kept by " + i, x.about(i, 3), 0);
            Check.due("taken by " + i, x.about(i, 4), 0);
            Check.due("notes of " + i, x.forward(i), 0);
            Check.due("whether " + i + " did hide", x.hide(i, false), false);
        }
        Check.iae("deliver(0)", () -> x.deliver(0));
        Check.iae("holds(0)", () -> x.holds(0));
    }

    private static void everybodyIsTrusted(TellTale x, int nodes) {
        for (int i = 0; i < nodes; i++) {
            for (int of = 0; of < nodes; of++) {
                if (of != i) {
                    Check.due("verdict(" + i + ", " + of + ")", x.verdict(i, of), 0);
                }
            }
            Check.due("audit by the first witness of " + i, x.audit((i + 1) % nodes, i), 0);
            Check.due("audit by the second witness of " + i, x.audit((i + 2) % nodes, i), 0);
        }
    }

    // all else is as at first: in whole, whatever the number of nodes was before and is then
    static void promise02AllElseIsAsAtFirst() {
        for (int nodes = 3; nodes <= 6; nodes++) {
            TellTale x = Scenes.busy();
            x.open(nodes);
            allIsAsAtFirst(x, nodes);
            TellTale again = Scenes.busy();
            again.open(nodes);
            Twins.alike("use before open(" + nodes + ")", again, Scenes.opened(nodes));
        }
    }

    static void promise02NodesThatWereAwayAreNewToo() {
        TellTale x = Scenes.opened(6);
        x.input(5, 3);
        x.lie(0, 5, SILENT);
        x.deliver(0);
        x.open(3);
        x.open(6);
        allIsAsAtFirst(x, 6);
    }

    static void promise02ForgetsWhatWasTaken() {
        TellTale x = Scenes.opened(6);
        for (int round = 0; round < 2; round++) {
            for (int node = 0; node < 6; node++) {
                x.lie(node, (node + 1) % 6, SILENT);
                x.lie(node, (node + 1) % 6, SILENT);
            }
            for (int i = 0; i < 12; i++) {
                Check.due("message " + i + " of round " + round, x.deliver(0), true);
            }
            x.open(6);
        }
    }

    static void promise02ForgetsWhatWasKept() {
        TellTale x = new TellTale();
        x.input(0, 1);
        x.input(0, 3);
        Check.due("audit", x.audit(1, 0), 0);
        x.open(3);
        x.input(0, 5);
        Check.due("audit of a shorter log", x.audit(1, 0), 0);
        x.input(0, 6);
        Check.due("audit of another log", x.audit(1, 0), 0);
        Check.due("kept", x.about(1, 3), 2);
    }

    static void promise02ForgetsWhatWasForwarded() {
        TellTale x = new TellTale();
        for (int round = 0; round < 2; round++) {
            x.lie(0, 1, SILENT);
            x.deliver(0);
            Check.due("notes of round " + round, x.forward(1), 1);
            x.open(3);
        }
    }

    static void promise02ForgetsEvidence() {
        TellTale x = Scenes.withFork(4, 3);
        x.lie(1, 2, 5);
        x.audit(2, 1);
        Check.due("evidence", x.total(2), 2);
        x.open(4);
        Check.iae("holds(0)", () -> x.holds(0));
        x.lie(3, 0, 9);
        Check.due("audit", x.audit(0, 3), 2);
        Check.due("evidence then", x.total(2), 1);
        int[] due = Sums.run(3, new int[][] {{3, 0, 9}}, 1);
        for (int i = 0; i < due.length; i++) {
            Check.due("byteOf(0, " + i + ")", x.byteOf(0, i), due[i]);
        }
        Check.due("byte behind the last", x.byteOf(0, due.length), TellTale.NONE);
        Check.due("holds", x.holds(0), true);
        Check.iae("holds(1)", () -> x.holds(1));
    }

    static void promise02ForgetsWhoHides() {
        TellTale x = new TellTale();
        x.hide(1, true);
        x.audit(2, 1);
        x.open(3);
        Check.due("verdict", x.verdict(2, 1), 0);
        Check.due("audit", x.audit(2, 1), 0);
        Check.due("whether it did hide", x.hide(1, false), false);
    }

    static void promise02ForgetsWhoIsExposed() {
        TellTale x = Scenes.withRun(5, 1);
        x.judge(4, 0);
        x.open(5);
        Check.due("verdict of the witness", x.verdict(1, 0), 0);
        Check.due("verdict of who judged", x.verdict(4, 0), 0);
        Check.due("audit", x.audit(1, 0), 0);
    }

    // IllegalArgumentException: not 3 .. 6.
    static void promise02RefusesFewerThanThree() {
        for (int few : new int[] {2, 1, 0, -1, -3, -4, Integer.MIN_VALUE}) {
            Twins.refuse(Check.IAE, "open(" + few + ")", Scenes::busy, x -> x.open(few));
        }
    }

    static void promise02RefusesMoreThanSix() {
        for (int many : new int[] {7, 8, 40, Integer.MAX_VALUE}) {
            Twins.refuse(Check.IAE, "open(" + many + ")", Scenes::busy, x -> x.open(many));
        }
    }
}
