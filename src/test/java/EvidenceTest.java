/** Promises 14 to 17: evidence, its bytes, whether it holds, and who is convinced by it. */
public final class EvidenceTest {
    private static final int SILENT = 1 << 28;

    public static void main(String[] args) {
        judgeConvinces();
        judgeOfWhatDoesNotHold();
        judgeWrong();
        byteOfEdges();
        smudgeEdges();
        eachByteMatters();
        runOfOneEntry();
        runOfTwoEntries();
        runOfAnotherNode();
        forkOfOneEntry();
        forkOfTwoEntries();
        lengths();
        Check.end();
    }

    // Evidence 0 of node 0 found by node 1, with so many entries in it.
    private static TellTale withRun(int nodes, int entries) {
        TellTale x = new TellTale();
        x.open(nodes);
        for (int i = 0; i < entries; i++) {
            x.lie(0, 1, i);
        }
        Check.due("audit", x.audit(1, 0), 2);
        return x;
    }

    private static TellTale withFork(int nodes, int entries) {
        TellTale x = new TellTale();
        x.open(nodes);
        for (int i = 0; i < entries; i++) {
            x.lie(0, 1, SILENT);
        }
        x.deliver(0);
        x.bend(0, 1, 1);
        Check.due("audit", x.audit(1, 0), 2);
        return x;
    }

    private static void write(TellTale x, int[] bytes) {
        Check.due("length", x.byteOf(0, bytes.length), TellTale.NONE);
        for (int i = 0; i < bytes.length; i++) {
            x.smudge(0, i, bytes[i]);
        }
    }

    private static void judgeConvinces() {
        Check.part("promise 14");
        TellTale x = withRun(5, 1);
        Check.due("verdict of one that knows nothing", x.verdict(3, 0), 0);
        Check.due("judge(3, 0)", x.judge(3, 0), true);
        Check.due("verdict of no witness", x.verdict(3, 0), 2);
        Check.due("verdict of another one", x.verdict(2, 0), 0);
        x.hide(0, true);
        Check.due("a suspicion", x.audit(2, 0), 1);
        Check.due("judge(2, 0)", x.judge(2, 0), true);
        Check.due("verdict of a witness", x.verdict(2, 0), 2);
        x.hide(0, false);
        x.cut(0, 0);
        Check.due("it audits no more", x.audit(2, 0), 2);
        Check.due("evidence", x.total(2), 1);
        Check.due("the one that found it", x.judge(1, 0), true);
        Check.due("the one that it tells of", x.judge(0, 0), true);
        Check.due("its own opinions", x.verdict(0, 1), 0);
        TellTale y = withFork(4, 2);
        Check.due("judge of a fork", y.judge(3, 0), true);
        Check.due("verdict by a fork", y.verdict(3, 0), 2);
        Check.due("others", y.verdict(3, 1), 0);
    }

    private static void judgeOfWhatDoesNotHold() {
        Check.part("promise 14, what does not hold");
        TellTale x = withRun(4, 1);
        int last = 4 + 6 + 8 + 1;
        Check.due("smudge", x.smudge(0, last, 2), 1);
        Check.due("holds", x.holds(0), false);
        Check.due("judge", x.judge(2, 0), false);
        Check.due("verdict", x.verdict(2, 0), 0);
        Check.due("judge by the exposer", x.judge(1, 0), false);
        Check.due("exposed for ever", x.verdict(1, 0), 2);
        x.smudge(0, last, 1);
        Check.due("judge of what holds again", x.judge(2, 0), true);
        Check.due("verdict then", x.verdict(2, 0), 2);
    }

    private static void judgeWrong() {
        Check.part("promises 14 to 17, wrong");
        TellTale none = new TellTale();
        Check.iae("judge(0, 0) of none", () -> none.judge(0, 0));
        Check.iae("holds(0) of none", () -> none.holds(0));
        Check.iae("byteOf(0, 0) of none", () -> none.byteOf(0, 0));
        Check.iae("smudge(0, 0, 0) of none", () -> none.smudge(0, 0, 0));
        TellTale x = withRun(4, 1);
        for (int bad : new int[] {-1, 1, 40, Integer.MIN_VALUE, Integer.MAX_VALUE}) {
            Check.iae("judge(2, " + bad + ")", () -> x.judge(2, bad));
            Check.iae("holds(" + bad + ")", () -> x.holds(bad));
            Check.iae("byteOf(" + bad + ", 0)", () -> x.byteOf(bad, 0));
            Check.iae("smudge(" + bad + ", 0, 0)", () -> x.smudge(bad, 0, 0));
        }
        for (int bad : new int[] {-1, 4, 6, Integer.MIN_VALUE, Integer.MAX_VALUE}) {
            Check.iae("judge(" + bad + ", 0)", () -> x.judge(bad, 0));
        }
        Check.due("verdict", x.verdict(2, 0), 0);
        Check.due("holds", x.holds(0), true);
        x.open(4);
        Check.iae("holds(0) after open", () -> x.holds(0));
    }

    private static void byteOfEdges() {
        Check.part("promise 16");
        TellTale x = new TellTale();
        x.lie(2, 0, -2);
        x.audit(0, 2);
        int[] due = Sums.run(2, new int[][] {{3, 0, -2}}, 1);
        for (int i = 0; i < due.length; i++) {
            Check.due("byteOf(0, " + i + ")", x.byteOf(0, i), due[i]);
        }
        for (int none : new int[] {due.length, -1, 929, 930, Integer.MIN_VALUE, Integer.MAX_VALUE}) {
            Check.due("byteOf(0, " + none + ")", x.byteOf(0, none), -1);
        }
        x.bend(2, 1, 7);
        Check.due("the evidence is no more the log", x.byteOf(0, 9), 254);
        Check.due("and holds", x.holds(0), true);
    }

    private static void smudgeEdges() {
        Check.part("promise 17");
        TellTale x = withRun(3, 1);
        Check.due("smudge(0, 2, 255)", x.smudge(0, 2, 255), 0);
        Check.due("byteOf(0, 2)", x.byteOf(0, 2), 255);
        Check.due("smudge(0, 2, 128)", x.smudge(0, 2, 128), 255);
        Check.due("smudge(0, 2, 0)", x.smudge(0, 2, 0), 128);
        Check.due("holds again", x.holds(0), true);
        Check.due("smudge to what it is", x.smudge(0, 3, 1), 1);
        Check.due("the last byte", x.smudge(0, 19, 1), 1);
        for (int bad : new int[] {-1, 20, 1000, Integer.MIN_VALUE, Integer.MAX_VALUE}) {
            Check.iae("smudge(0, " + bad + ", 1)", () -> x.smudge(0, bad, 1));
        }
        for (int bad : new int[] {-1, 256, -128, Integer.MIN_VALUE, Integer.MAX_VALUE}) {
            Check.iae("smudge(0, 0, " + bad + ")", () -> x.smudge(0, 0, bad));
        }
        Check.due("byteOf(0, 0)", x.byteOf(0, 0), 2);
        Check.due("holds still", x.holds(0), true);
        Check.due("the log stays", x.entry(0, 1, 2), 0);
    }

    private static void eachByteMatters() {
        Check.part("promise 15, each byte");
        for (int kind = 1; kind <= 2; kind++) {
            TellTale x = kind == 1 ? withFork(4, 2) : withRun(4, 2);
            for (int i = 0; x.byteOf(0, i) != TellTale.NONE; i++) {
                int was = x.byteOf(0, i);
                Check.due("smudge of byte " + i, x.smudge(0, i, was ^ 1 << i % 8), was);
                Check.due("holds without byte " + i, x.holds(0), false);
                x.smudge(0, i, was);
            }
            Check.due("holds with all of them", x.holds(0), true);
        }
    }

    private static void runHolds(TellTale x, int node, int[][] entries, int number, boolean due) {
        write(x, Sums.run(node, entries, number));
        StringBuilder told = new StringBuilder("holds of node " + node + ", number " + number + ", entries");
        for (int[] entry : entries) {
            told.append(" (" + entry[0] + " " + entry[1] + " " + entry[2] + ")");
        }
        Check.due(told.toString(), x.holds(0), due);
    }

    private static void runOfOneEntry() {
        Check.part("promise 15, run of one entry");
        int[][] wrongAtOnce = {{3, 1, 0}, {3, 0, 0}, {3, 255, -1}, {1, 1, 1}, {1, 255, 1}, {2, 0, SILENT}, {2, 4, SILENT},
            {2, 255, SILENT}};
        for (int[] entry : wrongAtOnce) {
            for (int number = 0; number <= 2; number++) {
                runHolds(withRun(4, 1), 0, new int[][] {entry}, number, number == 1);
            }
        }
        int[][] good = {{1, 0, 1}, {2, 1, SILENT}, {2, 3, SILENT}};
        int[][] due = {{1, 0, 2}, {1, 0, 0}, {2, 1, 5}, {2, 3, -3}};
        for (int number = 0; number <= 2; number++) {
            for (int[] entry : good) {
                runHolds(withRun(4, 1), 0, new int[][] {entry}, number, false);
            }
            for (int[] entry : due) {
                runHolds(withRun(4, 1), 0, new int[][] {entry}, number, number == 2);
            }
        }
        runHolds(withRun(4, 1), 0, new int[][] {{0, 0, 1}}, 1, false);
        runHolds(withRun(4, 1), 0, new int[][] {{4, 0, 1}}, 1, false);
        runHolds(withRun(4, 1), 0, new int[][] {{255, 0, 1}}, 1, false);
        runHolds(withRun(4, 1), 0, new int[][] {{3, 1, 1}}, 65535, false);
        runHolds(withRun(4, 1), 0, new int[][] {{3, 1, 1}}, 257, false);
    }

    private static void runOfTwoEntries() {
        Check.part("promise 15, run of two entries");
        int[][][] logs = {
            {{1, 0, 2}, {3, 1, 1}}, {{1, 0, 2}, {3, 2, 1}}, {{1, 0, 2}, {3, 1, 0}}, {{1, 0, 2}, {1, 0, 1}},
            {{1, 0, 2}, {2, 1, 1}}, {{1, 0, 1}, {1, 0, 2}}, {{1, 0, 1}, {1, 0, 1}}, {{1, 0, 1}, {3, 1, 0}},
            {{2, 1, 0}, {3, 1, 32}}, {{2, 1, 0}, {3, 2, 32}}, {{2, 1, 0}, {3, 1, 33}}, {{2, 1, SILENT}, {2, 2, 0}},
            {{1, 3, 2}, {3, 1, 1}}, {{1, 0, 1}, {1, 0, 7 << 8 | 3}}, {{3, 1, 1}, {4, 0, 0}}};
        int b = Sums.receipt(Sums.receipt(0, SILENT, 1), 0, 2);
        Check.due("that receipt makes an answer due", (b & 7) == 0, true);
        int[] wrongAt = {0, 2, 2, 2, 2, 0, 3, 2, 0, 2, 2, 3, 1, 3, 0};
        for (int i = 0; i < logs.length; i++) {
            for (int number = 0; number <= 3; number++) {
                runHolds(withRun(3, 2), 0, logs[i], number, number == wrongAt[i] && number > 0);
            }
        }
    }

    private static void runOfAnotherNode() {
        Check.part("promises 14 and 15, another node");
        TellTale x = withRun(4, 1);
        runHolds(x, 3, new int[][] {{3, 0, 1}}, 1, true);
        Check.due("judge", x.judge(0, 0), true);
        Check.due("verdict of the one told of", x.verdict(0, 3), 2);
        runHolds(x, 3, new int[][] {{2, 3, SILENT}}, 1, true);
        runHolds(x, 3, new int[][] {{2, 0, SILENT}}, 1, false);
        runHolds(x, 4, new int[][] {{3, 0, 1}}, 1, false);
        Check.due("judge of no node", x.judge(0, 0), false);
        runHolds(x, 255, new int[][] {{3, 0, 1}}, 1, false);
        runHolds(x, 1, new int[][] {{1, 0, 4}}, 2, true);
        Check.due("judge by itself", x.judge(1, 0), true);
        Check.due("verdict by another", x.verdict(0, 1), 0);
        TellTale y = withRun(6, 1);
        runHolds(y, 5, new int[][] {{2, 4, SILENT}}, 1, false);
        runHolds(y, 4, new int[][] {{3, 0, 1}}, 1, true);
    }

    private static void forkHolds(TellTale x, int node, int[][] entries, int number, long kept, boolean due) {
        write(x, Sums.fork(node, entries, number, kept));
        Check.due("holds of node " + node + ", number " + number + ", head " + kept, x.holds(0), due);
    }

    private static void forkOfOneEntry() {
        Check.part("promise 15, fork of one entry");
        int[][] good = {{1, 0, 1}};
        TellTale x = withFork(4, 1);
        forkHolds(x, 0, good, 1, 12345, true);
        forkHolds(x, 0, good, 1, Sums.head(good, 1), false);
        forkHolds(x, 0, good, 0, 12345, false);
        forkHolds(x, 0, good, 2, 12345, false);
        forkHolds(x, 0, good, 65535, 12345, false);
        forkHolds(x, 3, good, 1, 12345, true);
        forkHolds(x, 4, good, 1, 12345, false);
        TellTale y = withFork(4, 1);
        forkHolds(y, 2, new int[][] {{2, 200, 1}}, 1, 0, true);
        Check.due("judge", y.judge(0, 0), true);
        Check.due("verdict", y.verdict(0, 2), 2);
        forkHolds(y, 2, new int[][] {{0, 0, 1}}, 1, 0, false);
        forkHolds(y, 2, new int[][] {{4, 0, 1}}, 1, 0, false);
        forkHolds(y, 2, new int[][] {{3, 1, 1}}, 0, 5, false);
        forkHolds(y, 2, new int[][] {{3, 1, -1}}, 1, -1, true);
        int[] signedByAnother = Sums.fork(2, good, 1, 12345);
        Sums.put(signedByAnother, signedByAnother.length - 8, Sums.sign(1, 1, 12345), 8);
        write(y, signedByAnother);
        Check.due("the kept one signed by another", y.holds(0), false);
    }

    private static void forkOfTwoEntries() {
        Check.part("promise 15, fork of two entries");
        int[][] good = {{1, 0, 1}, {1, 0, 2}};
        TellTale x = withFork(3, 2);
        forkHolds(x, 0, good, 1, Sums.head(good, 2), true);
        forkHolds(x, 0, good, 2, Sums.head(good, 1), true);
        forkHolds(x, 0, good, 1, Sums.head(good, 1), false);
        forkHolds(x, 0, good, 2, Sums.head(good, 2), false);
        forkHolds(x, 0, good, 3, Sums.head(good, 1), false);
        int[] signedOfLess = Sums.fork(0, good, 1, 99);
        Sums.put(signedOfLess, 4 + 12, Sums.sign(0, 1, Sums.head(good, 1)), 8);
        write(x, signedOfLess);
        Check.due("log signed of a number before the last", x.holds(0), false);
    }

    private static void lengths() {
        Check.part("promise 15, length");
        TellTale x = withRun(3, 3);
        int[] entriesOf = {0, 1, 2, 4, 255};
        for (int entries : entriesOf) {
            x.smudge(0, 3, entries);
            Check.due("holds with " + entries + " entries told", x.holds(0), false);
        }
        x.smudge(0, 3, 3);
        x.smudge(0, 2, 255);
        Check.due("holds with very many entries told", x.holds(0), false);
        x.smudge(0, 2, 0);
        Check.due("holds", x.holds(0), true);
        for (int kind : new int[] {0, 1, 3, 255}) {
            x.smudge(0, 0, kind);
            Check.due("holds with kind " + kind, x.holds(0), false);
            Check.due("judge with kind " + kind, x.judge(2, 0), false);
        }
    }
}
