/** Promises 13 and 18: audits, what they find, and what nodes think then. */
public final class AuditTest {
    private static final int SILENT = 1 << 28;

    public static void main(String[] args) {
        trusted();
        keepsLastHead();
        witnesses();
        suspectedForHiding();
        suspectedForWhatIsGone();
        forkBytes();
        forkOfLeastNumber();
        forkOfKeptFirst();
        forkGoesFirst();
        runOfLie();
        runOfBentLogs();
        runBehindLastEntry();
        runOfFullLog();
        runGoesBeforeWhatIsGone();
        runOfReceipts();
        notAuditedAnyMore();
        twelveAtMost();
        verdicts();
        Check.end();
    }

    private static void isEvidence(TellTale x, int evidence, int[] bytes) {
        for (int i = 0; i < bytes.length; i++) {
            Check.due("byteOf(" + evidence + ", " + i + ")", x.byteOf(evidence, i), bytes[i]);
        }
        Check.due("byteOf(" + evidence + ", " + bytes.length + ")", x.byteOf(evidence, bytes.length), TellTale.NONE);
        Check.due("holds(" + evidence + ")", x.holds(evidence), true);
    }

    private static void isRun(TellTale x, int witness, int node, int[][] entries, int number) {
        int before = x.total(2);
        Check.due("audit(" + witness + ", " + node + ")", x.audit(witness, node), 2);
        Check.due("evidence", x.total(2), before + 1);
        isEvidence(x, before, Sums.run(node, entries, number));
    }

    private static void trusted() {
        Check.part("promise 13, trusted");
        TellTale x = new TellTale();
        x.open(4);
        Check.due("audit of an empty log", x.audit(1, 0), 0);
        Check.due("head 0 is not kept", x.about(1, 3), 0);
        x.input(0, 2);
        x.input(0, 3);
        x.input(1, 10);
        x.deliver(0);
        x.deliver(0);
        x.deliver(0);
        for (int node = 0; node < 4; node++) {
            Check.due("by the first witness of " + node, x.audit((node + 1) % 4, node), 0);
            Check.due("by the second witness of " + node, x.audit((node + 2) % 4, node), 0);
        }
        Check.due("evidence", x.total(2), 0);
    }

    private static void keepsLastHead() {
        Check.part("promise 13, last head");
        TellTale x = new TellTale();
        x.input(0, 1);
        x.input(0, 2);
        Check.due("audit", x.audit(1, 0), 0);
        Check.due("kept", x.about(1, 3), 1);
        Check.due("audit again", x.audit(1, 0), 0);
        Check.due("kept once", x.about(1, 3), 1);
        x.input(0, 2);
        x.audit(1, 0);
        Check.due("kept then", x.about(1, 3), 2);
        Check.due("log of the witness", x.about(1, 0), 0);
        Check.due("notes", x.forward(1), 2);
        x.deliver(x.total(0) - 1);
        Check.due("noted", x.about(2, 3), 1);
        Check.due("audit by the other", x.audit(2, 0), 0);
        Check.due("it kept that already", x.about(2, 3), 1);
        x.cut(0, 1);
        Check.due("audit of what is cut", x.audit(2, 0), 1);
        Check.due("a suspected one's head is not kept", x.about(2, 3), 1);
    }

    private static void witnesses() {
        Check.part("promise 13, witnesses");
        for (int nodes = 3; nodes <= 6; nodes++) {
            TellTale x = new TellTale();
            x.open(nodes);
            for (int witness = 0; witness < nodes; witness++) {
                for (int node = 0; node < nodes; node++) {
                    int far = (witness - node + nodes) % nodes;
                    int w = witness;
                    int of = node;
                    String due = far == 1 || far == 2 ? "nothing" : Check.IAE;
                    Check.due("audit(" + w + ", " + of + ") of " + nodes, Check.outcome(() -> x.audit(w, of)), due);
                }
            }
            int n = nodes;
            Check.iae("audit(n, n - 1)", () -> x.audit(n, n - 1));
            Check.iae("audit(1, n)", () -> x.audit(1, n));
            Check.iae("audit(0, -1)", () -> x.audit(0, -1));
            Check.iae("audit(-1, 0)", () -> x.audit(-1, 0));
            Check.iae("audit(MIN, MAX)", () -> x.audit(Integer.MIN_VALUE, Integer.MAX_VALUE));
        }
    }

    private static void suspectedForHiding() {
        Check.part("promise 13, hiding");
        TellTale x = new TellTale();
        x.lie(0, 1, SILENT);
        x.deliver(0);
        x.bend(0, 1, 5);
        x.hide(0, true);
        Check.due("audit", x.audit(1, 0), 1);
        Check.due("evidence", x.total(2), 0);
        Check.due("kept", x.about(1, 3), 1);
        Check.due("verdict", x.verdict(1, 0), 1);
        Check.due("verdict of the other witness", x.verdict(2, 0), 0);
        x.hide(0, false);
        Check.due("audit of what it hid", x.audit(1, 0), 2);
        Check.due("evidence then", x.total(2), 1);
        x.hide(0, true);
        Check.due("audit of an exposed one that hides", x.audit(1, 0), 2);
        Check.due("audit by the other", x.audit(2, 0), 1);
        Check.due("evidence still", x.total(2), 1);
    }

    private static void suspectedForWhatIsGone() {
        Check.part("promise 13, what is gone");
        TellTale x = new TellTale();
        x.input(0, 1);
        x.input(0, 2);
        x.audit(1, 0);
        x.cut(0, 1);
        Check.due("audit of a cut log", x.audit(1, 0), 1);
        Check.due("verdict", x.verdict(1, 0), 1);
        Check.due("no evidence", x.total(2), 0);
        Check.due("the last head is not kept", x.about(1, 3), 1);
        x.cut(0, 0);
        Check.due("audit of an empty log", x.audit(1, 0), 1);
        Check.due("by one that keeps none", x.audit(2, 0), 0);
        x.input(0, 2);
        x.bend(0, 1, 1);
        x.input(0, 2);
        Check.due("entries again", x.about(0, 0), 2);
        Check.due("audit of the same log again", x.audit(1, 0), 0);
        Check.due("verdict then", x.verdict(1, 0), 0);
    }

    private static void forkBytes() {
        Check.part("promise 13, fork");
        TellTale x = new TellTale();
        x.open(6);
        x.input(5, 1);
        x.input(5, 7 << 8 | 2);
        int[][] honest = {{1, 0, 1}, {1, 0, 7 << 8 | 2}};
        long kept = Sums.head(honest, 2);
        x.audit(0, 5);
        Check.due("kept", x.about(0, 3), 1);
        x.bend(5, 2, -2);
        x.input(5, 2);
        int[][] bent = {{1, 0, 1}, {1, 0, -2}, {1, 0, 2}};
        Check.due("the other witness sees no fork", x.audit(1, 5), 0);
        Check.due("audit", x.audit(0, 5), 2);
        Check.due("evidence", x.total(2), 1);
        isEvidence(x, 0, Sums.fork(5, bent, 2, kept));
        Check.due("the new head is not kept", x.about(0, 3), 1);
    }

    // Lies 1, 2, 3 of node 0 go to 1, which takes them in the order 3, 1, 2; then the log is another one.
    private static void forkOfLeastNumber() {
        Check.part("promise 13, fork of least number");
        for (int bent = 1; bent <= 3; bent++) {
            TellTale x = new TellTale();
            int[][] entries = {{3, 1, SILENT}, {3, 1, SILENT + 1}, {3, 1, SILENT + 2}};
            for (int[] entry : entries) {
                x.lie(0, 1, entry[2]);
            }
            x.deliver(2);
            x.deliver(0);
            x.deliver(0);
            long kept = x.head(0, bent);
            x.bend(0, bent, 77);
            entries[bent - 1][2] = 77;
            Check.due("audit", x.audit(1, 0), 2);
            isEvidence(x, 0, Sums.fork(0, entries, bent, kept));
        }
        TellTale x = new TellTale();
        x.lie(0, 1, SILENT);
        x.lie(0, 1, SILENT);
        x.deliver(1);
        x.bend(0, 1, 77);
        x.cut(0, 1);
        Check.due("kept number 2 is beyond the log: a run", x.audit(1, 0), 2);
        Check.due("kind", x.byteOf(0, 0), 2);
    }

    // Node 1 keeps two heads of number 1, by a message and by a note, in either order.
    private static void forkOfKeptFirst() {
        Check.part("promise 13, fork by what was kept first");
        int[][] toOne = {{3, 1, SILENT}};
        int[][] toTwo = {{3, 2, SILENT}};
        long[] heads = {Sums.head(toOne, 1), Sums.head(toTwo, 1)};
        for (int first = 0; first < 2; first++) {
            for (int shown = 0; shown < 3; shown++) {
                TellTale x = new TellTale();
                x.open(4);
                x.lie(0, 2, SILENT);
                x.cut(0, 0);
                x.lie(0, 1, SILENT);
                x.deliver(0);
                x.forward(2);
                x.deliver(first);
                x.deliver(0);
                Check.due("kept", x.about(1, 3), 2);
                x.cut(0, 0);
                int[][] log = shown == 0 ? toOne : shown == 1 ? toTwo : new int[][] {{3, 3, 6}};
                x.lie(0, log[0][1], log[0][2]);
                Check.due("audit", x.audit(1, 0), 2);
                long other = shown == 0 ? heads[1] : shown == 1 ? heads[0] : heads[first];
                isEvidence(x, 0, Sums.fork(0, log, 1, other));
            }
        }
    }

    private static void forkGoesFirst() {
        Check.part("promise 13, fork before all else");
        TellTale x = new TellTale();
        x.lie(0, 1, SILENT);
        x.lie(0, 1, SILENT);
        x.deliver(0);
        x.deliver(0);
        x.bend(0, 1, 3);
        x.cut(0, 1);
        Check.due("audit of a lie, forked, with a number gone", x.audit(1, 0), 2);
        Check.due("kind", x.byteOf(0, 0), 1);
        Check.due("kept", x.about(1, 3), 2);
        Check.due("the other finds", x.audit(2, 0), 2);
        Check.due("the run", x.byteOf(1, 0), 2);
    }

    private static void runOfLie() {
        Check.part("promise 13, run of a lie");
        TellTale x = new TellTale();
        x.open(5);
        x.input(3, 2);
        x.lie(3, 0, -6);
        x.input(3, 1);
        isRun(x, 0, 3, new int[][] {{1, 0, 2}, {3, 4, 1}, {3, 0, -6}, {1, 0, 1}}, 3);
        TellTale y = new TellTale();
        y.lie(2, 0, 1);
        isRun(y, 1, 2, new int[][] {{3, 0, 1}}, 1);
        Check.due("kept", y.about(1, 3), 0);
    }

    private static void runOfBentLogs() {
        Check.part("promise 13, run of bent logs");
        int[][] log = {{1, 0, 2}, {3, 1, 1}, {1, 0, 3}, {1, 0, 5}, {3, 2, 0}};
        int a = 31 * (31 * 2 + 3) + 5;
        log[4] = new int[] {3, Sums.inputSendsTo(0, a, 3), a >>> 1};
        int[][] bends = {{1, 3, 2}, {1, 4, 2}, {2, 9, 2}, {3, 4, 4}, {4, 6, 5}, {5, -1, 5}};
        for (int[] bend : bends) {
            TellTale x = new TellTale();
            int[][] entries = new int[5][];
            for (int k = 0; k < 5; k++) {
                entries[k] = log[k].clone();
                if (entries[k][0] == 1) {
                    x.input(0, entries[k][2]);
                }
            }
            Check.due("entries", x.about(0, 0), 5);
            x.bend(0, bend[0], bend[1]);
            entries[bend[0] - 1][2] = bend[1];
            isRun(x, 2, 0, entries, bend[2]);
        }
        TellTale x = new TellTale();
        x.input(0, 1);
        x.bend(0, 1, 3);
        Check.due("bent, but as a machine may do", x.audit(1, 0), 0);
    }

    private static void runBehindLastEntry() {
        Check.part("promise 13, run behind the last entry");
        TellTale x = new TellTale();
        x.input(0, 1);
        x.input(0, 1);
        Check.due("cut", x.cut(0, 2), 1);
        isRun(x, 1, 0, new int[][] {{1, 0, 1}, {1, 0, 1}}, 3);
        x.input(1, 1);
        x.bend(1, 1, 4);
        isRun(x, 2, 1, new int[][] {{1, 0, 4}}, 2);
        x.lie(0, 2, 1);
        x.deliver(x.total(0) - 1);
        Check.due("receipt and answer", x.about(2, 0), 2);
        x.cut(2, 1);
        isRun(x, 0, 2, new int[][] {{2, 0, 1}}, 2);
    }

    private static void runOfFullLog() {
        Check.part("promise 13, run of a full log");
        TellTale x = new TellTale();
        int[][] entries = new int[150][];
        for (int i = 0; i < 148; i++) {
            entries[i] = new int[] {1, 0, i == 0 ? 1 : -30};
            x.input(0, entries[i][2]);
        }
        int a = x.about(0, 1);
        Check.due("A", a, 1);
        entries[148] = new int[] {1, 0, -29};
        entries[149] = new int[] {3, 1, 1};
        Check.due("the last input", x.input(0, -29), 150);
        Check.due("audit of a full log", x.audit(1, 0), 0);
        x.bend(0, 150, 2);
        entries[149][2] = 2;
        Check.due("audit of a bent full log", x.audit(2, 0), 2);
        int[] bytes = Sums.run(0, entries, 150);
        // An object is good for 512 calls: not all 914 bytes are looked at.
        for (int i = 0; i < bytes.length; i += i >= 890 ? 1 : 10) {
            Check.due("byteOf(0, " + i + ")", x.byteOf(0, i), bytes[i]);
        }
        Check.due("byte behind the last", x.byteOf(0, bytes.length), TellTale.NONE);
        Check.due("holds", x.holds(0), true);
        TellTale y = new TellTale();
        y.open(5);
        for (int i = 0; i < 149; i++) {
            y.lie(1, 2, 0);
        }
        Check.due("audit of lies", y.audit(2, 1), 2);
        Check.due("high byte", y.byteOf(0, 2), 0);
        Check.due("low byte", y.byteOf(0, 3), 149);
        Check.due("last byte", y.byteOf(0, 907), 1);
        Check.due("behind it", y.byteOf(0, 908), TellTale.NONE);
    }

    private static void runGoesBeforeWhatIsGone() {
        Check.part("promise 13, run before what is gone");
        TellTale x = new TellTale();
        x.input(0, 1);
        x.input(0, 2);
        x.audit(1, 0);
        x.cut(0, 0);
        x.lie(0, 2, 5);
        isRun(x, 1, 0, new int[][] {{3, 2, 5}}, 1);
    }

    private static void runOfReceipts() {
        Check.part("promise 13, run of receipts");
        TellTale x = new TellTale();
        x.open(4);
        x.lie(3, 0, SILENT);
        x.lie(2, 0, 9);
        x.deliver(0);
        x.deliver(0);
        x.input(0, 6);
        int b = Sums.receipt(Sums.receipt(0, SILENT, 3), 9, 2);
        Check.due("B", x.about(0, 2), b);
        Check.due("audit with receipts", x.audit(1, 0), 0);
        int[][] entries = {{2, 3, SILENT}, {2, 2, 9}, {3, 2, b}, {1, 0, 6}, {3, 1, 3 ^ b}};
        Check.due("entries", x.about(0, 0), 5);
        x.bend(0, 1, SILENT + 1);
        entries[0][2]++;
        isRun(x, 2, 0, entries, 3);
    }

    private static void notAuditedAnyMore() {
        Check.part("promise 13, not audited any more");
        TellTale x = new TellTale();
        x.lie(0, 1, 5);
        Check.due("audit", x.audit(1, 0), 2);
        Check.due("again", x.audit(1, 0), 2);
        Check.due("evidence", x.total(2), 1);
        x.cut(0, 0);
        x.input(0, 1);
        Check.due("with a good log", x.audit(1, 0), 2);
        Check.due("kept", x.about(1, 3), 0);
        Check.due("evidence still", x.total(2), 1);
        Check.due("by the other", x.audit(2, 0), 0);
        x.smudge(0, 0, 9);
        Check.due("with evidence that holds no more", x.audit(1, 0), 2);
    }

    // A witness exposes a node once, so 40 pieces of evidence can't come about: 12 are the most.
    private static void twelveAtMost() {
        Check.part("promise 13, twelve pieces");
        TellTale x = new TellTale();
        x.open(6);
        for (int node = 0; node < 6; node++) {
            x.lie(node, (node + 1) % 6, node);
        }
        for (int round = 0; round < 4; round++) {
            for (int node = 0; node < 6; node++) {
                Check.due("first witness", x.audit((node + 1) % 6, node), 2);
                Check.due("second witness", x.audit((node + 2) % 6, node), 2);
            }
            Check.due("evidence", x.total(2), 12);
        }
        for (int i = 0; i < 12; i++) {
            Check.due("node of evidence " + i, x.byteOf(i, 1), i / 2);
            Check.due("holds(" + i + ")", x.holds(i), true);
        }
        Check.iae("holds(12)", () -> x.holds(12));
    }

    private static void verdicts() {
        Check.part("promise 18");
        TellTale x = new TellTale();
        x.open(4);
        x.hide(0, true);
        x.lie(1, 2, 5);
        x.audit(1, 0);
        x.audit(3, 1);
        int[][] due = {{-1, 0, 0, 0}, {1, -1, 0, 0}, {0, 0, -1, 0}, {0, 2, 0, -1}};
        for (int node = 0; node < 4; node++) {
            for (int of = 0; of < 4; of++) {
                if (node != of) {
                    Check.due("verdict(" + node + ", " + of + ")", x.verdict(node, of), due[node][of]);
                } else {
                    int self = node;
                    Check.iae("verdict of itself", () -> x.verdict(self, self));
                }
            }
        }
        for (int bad : new int[] {-1, 4, 6, Integer.MIN_VALUE, Integer.MAX_VALUE}) {
            Check.iae("verdict(" + bad + ", 0)", () -> x.verdict(bad, 0));
            Check.iae("verdict(0, " + bad + ")", () -> x.verdict(0, bad));
        }
    }
}
