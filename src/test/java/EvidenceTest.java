/**
 * Promises 14 to 17: judge(), holds(), byteOf() and smudge(). Behind each // the sentence of the document that the test
 * holds to.
 */
public final class EvidenceTest {
    private static final int SILENT = Scenes.SILENT;
    private static final int[] NO_EVIDENCE_OF_TWO = {-1, 2, 3, 40, Integer.MIN_VALUE, Integer.MAX_VALUE};

    public static void main(String[] args) {
        Check.all(EvidenceTest.class);
    }

    // So that evidence 0 has these bytes.
    private static void write(TellTale x, int[] bytes) {
        Check.due("length", x.byteOf(0, bytes.length), TellTale.NONE);
        for (int i = 0; i < bytes.length; i++) {
            x.smudge(0, i, bytes[i]);
        }
    }

    private static void runHolds(TellTale x, int node, int[][] entries, int number, boolean due) {
        write(x, Sums.run(node, entries, number));
        StringBuilder told = new StringBuilder("holds of node " + node + ", number " + number + ", entries");
        for (int[] entry : entries) {
            told.append(" (" + entry[0] + " " + entry[1] + " " + entry[2] + ")");
        }
        Check.due(told.toString(), x.holds(0), due);
    }

    private static void forkHolds(TellTale x, int node, int[][] entries, int number, long kept, boolean due) {
        write(x, Sums.fork(node, entries, number, kept));
        Check.due("holds of node " + node + ", number " + number + ", head " + kept, x.holds(0), due);
    }

    // if it HOLDS, the node that it tells of is EXPOSED for it, too: whether it holds
    static void promise14ConvincesOneThatIsNoWitness() {
        TellTale x = Scenes.withRun(5, 1);
        Check.due("verdict of one that knows nothing", x.verdict(3, 0), 0);
        Check.due("judge(3, 0)", x.judge(3, 0), true);
        Check.due("verdict of it", x.verdict(3, 0), 2);
        Check.due("verdict of another one", x.verdict(2, 0), 0);
        Check.due("again", x.judge(3, 0), true);
    }

    static void promise14ConvincesAWitnessThatAuditsNoMore() {
        TellTale x = Scenes.withRun(5, 1);
        x.hide(0, true);
        Check.due("a suspicion", x.audit(2, 0), 1);
        Check.due("judge(2, 0)", x.judge(2, 0), true);
        Check.due("verdict of a witness", x.verdict(2, 0), 2);
        x.hide(0, false);
        Check.due("audit of what is a lie", x.audit(2, 0), 2);
        Check.due("no more evidence of it", x.total(2), 1);
        x.cut(0, 0);
        Check.due("audit of what is good", x.audit(2, 0), 2);
        Check.due("nothing is kept", x.about(2, 3), 0);
    }

    static void promise14ConvincesTheOneThatFoundIt() {
        TellTale x = Scenes.withRun(3, 1);
        Check.due("judge", x.judge(1, 0), true);
        Check.due("verdict", x.verdict(1, 0), 2);
    }

    static void promise14TheOneThatItTellsOf() {
        TellTale x = Scenes.withRun(3, 1);
        Check.due("judge", x.judge(0, 0), true);
        Check.due("its opinion of 1", x.verdict(0, 1), 0);
        Check.due("its opinion of 2", x.verdict(0, 2), 0);
    }

    static void promise14Fork() {
        TellTale x = Scenes.withFork(4, 2);
        Check.due("judge of a fork", x.judge(3, 0), true);
        Check.due("verdict by a fork", x.verdict(3, 0), 2);
        Check.due("others", x.verdict(3, 1), 0);
    }

    static void promise14FirstAndLastPiece() {
        TellTale x = Scenes.busy();
        Check.due("judge(2, 0)", x.judge(2, 0), true);
        Check.due("of node 0", x.verdict(2, 0), 2);
        Check.due("of node 3", x.verdict(2, 3), 0);
        Check.due("judge(2, 1)", x.judge(2, 1), true);
        Check.due("of node 3 then", x.verdict(2, 3), 2);
    }

    static void promise14WhatDoesNotHold() {
        TellTale x = Scenes.withRun(4, 1);
        int last = 4 + 6 + 8 + 1;
        Check.due("smudge", x.smudge(0, last, 2), 1);
        Check.due("judge", x.judge(2, 0), false);
        Check.due("verdict", x.verdict(2, 0), 0);
        Check.due("judge by the one that found it", x.judge(1, 0), false);
        Check.due("exposed for ever", x.verdict(1, 0), 2);
        x.smudge(0, last, 1);
        Check.due("judge of what holds again", x.judge(2, 0), true);
        Check.due("verdict then", x.verdict(2, 0), 2);
        x.smudge(0, last, 2);
        Check.due("judge of what holds no more", x.judge(2, 0), false);
        Check.due("exposed still", x.verdict(2, 0), 2);
    }

    static void promise14WhatTellsOfAnotherNode() {
        TellTale x = Scenes.withRun(4, 1);
        runHolds(x, 3, new int[][] {{3, 0, 1}}, 1, true);
        Check.due("judge", x.judge(0, 0), true);
        Check.due("verdict of the one told of", x.verdict(0, 3), 2);
        runHolds(x, 1, new int[][] {{1, 0, 4}}, 2, true);
        Check.due("judge by itself", x.judge(1, 0), true);
        Check.due("verdict by another", x.verdict(0, 1), 0);
    }

    static void promise14WhatTellsOfNoNode() {
        TellTale x = Scenes.withRun(4, 1);
        for (int node : new int[] {4, 5, 6, 128, 255}) {
            runHolds(x, node, new int[][] {{3, 0, 1}}, 1, false);
            Check.due("judge of no node", x.judge(2, 0), false);
        }
        for (int of : new int[] {0, 1, 3}) {
            Check.due("verdict of " + of, x.verdict(2, of), 0);
        }
    }

    // IllegalArgumentException: there is no such node, ... evidence
    static void promise14RefusesNoNode() {
        for (int bad : new int[] {-1, 4, 5, 6, Integer.MIN_VALUE, Integer.MAX_VALUE}) {
            Twins.refuse(Check.IAE, "judge(" + bad + ", 0)", Scenes::busy, x -> x.judge(bad, 0));
            Twins.refuse(Check.IAE, "judge(" + bad + ", 2)", Scenes::busy, x -> x.judge(bad, 2));
        }
    }

    static void promise14RefusesNoEvidence() {
        for (int bad : NO_EVIDENCE_OF_TWO) {
            Twins.refuse(Check.IAE, "judge(2, " + bad + ")", Scenes::busy, x -> x.judge(2, bad));
        }
        Twins.refuse(Check.IAE, "judge(0, 0) of none", Scenes::fresh, x -> x.judge(0, 0));
    }

    // Whether a piece of evidence HOLDS.
    static void promise15AsItWasFound() {
        TellTale x = Scenes.busy();
        Check.due("holds(0)", x.holds(0), true);
        Check.due("holds(1)", x.holds(1), true);
        Check.due("nobody is convinced by that", x.verdict(2, 0), 0);
        x.cut(0, 0);
        x.bend(3, 1, 5);
        Check.due("holds(0), the log gone", x.holds(0), true);
        Check.due("holds(1), the log bent", x.holds(1), true);
    }

    static void promise15OfTwoPiecesEachForItself() {
        TellTale x = Scenes.busy();
        x.smudge(0, 8, 1);
        Check.due("holds(0)", x.holds(0), false);
        Check.due("holds(1)", x.holds(1), true);
    }

    static void promise15EachByteMatters() {
        for (int kind = 1; kind <= 2; kind++) {
            TellTale x = kind == 1 ? Scenes.withFork(4, 2) : Scenes.withRun(4, 2);
            for (int i = 0; x.byteOf(0, i) != TellTale.NONE; i++) {
                int was = x.byteOf(0, i);
                Check.due("smudge of byte " + i, x.smudge(0, i, was ^ 1 << i % 8), was);
                Check.due("holds without byte " + i, x.holds(0), false);
                x.smudge(0, i, was);
            }
            Check.due("holds with all of them", x.holds(0), true);
        }
    }

    // It HOLDS if it is just so long
    static void promise15TooLongOrTooShort() {
        TellTale x = Scenes.withRun(3, 3);
        for (int entries : new int[] {0, 1, 2, 4, 5, 150, 255}) {
            x.smudge(0, 3, entries);
            Check.due("holds with " + entries + " entries told", x.holds(0), false);
        }
        x.smudge(0, 3, 3);
        for (int high : new int[] {1, 128, 255}) {
            x.smudge(0, 2, high);
            Check.due("holds with 256 * " + high + " entries more", x.holds(0), false);
        }
        x.smudge(0, 2, 0);
        Check.due("holds with 3 entries", x.holds(0), true);
    }

    // Told entries end where the bytes end, whatever a longer piece had there before open().
    static void promise15TooShortWhereALongerOneWas() {
        TellTale x = Scenes.fullLog();
        x.audit(2, 1);
        x.bend(1, 150, 5);
        x.audit(2, 1);
        Check.due("the longer one", x.holds(0), true);
        for (int i = 904; i < 930; i += 6) {
            x.smudge(0, i, 1);
        }
        x.open(3);
        x.lie(0, 1, 3);
        x.audit(1, 0);
        Check.due("the shorter one", x.holds(0), true);
        x.smudge(0, 10, 1);
        x.smudge(0, 16, 1);
        for (int entries : new int[] {1, 2, 150, 255, 256 + 1, 65535}) {
            x.smudge(0, 2, entries >> 8);
            x.smudge(0, 3, entries & 255);
            Check.due("holds with " + entries + " entries told", x.holds(0), false);
        }
    }

    // Signed as it should be, only that there are fewer entries told than there is room for.
    static void promise15TooLongThoughSigned() {
        TellTale x = Scenes.withRun(3, 2);
        int[] shorter = Sums.run(0, new int[][] {{3, 1, 0}}, 1);
        for (int i = 0; i < shorter.length; i++) {
            x.smudge(0, i, shorter[i]);
        }
        Check.due("run with six bytes too many", x.holds(0), false);
        TellTale y = Scenes.withFork(3, 2);
        int[] fork = Sums.fork(0, new int[][] {{3, 1, 0}}, 1, 5);
        for (int i = 0; i < fork.length; i++) {
            y.smudge(0, i, fork[i]);
        }
        Check.due("fork with six bytes too many", y.holds(0), false);
        TellTale z = Scenes.withFork(3, 2);
        int[] run = Sums.run(0, new int[][] {{3, 1, 0}, {3, 1, 0}}, 1);
        for (int i = 0; i < run.length; i++) {
            z.smudge(0, i, run[i]);
        }
        Check.due("run as long as a fork", z.holds(0), false);
    }

    // kind (1 FORK, 2 RUN)
    static void promise15OtherKindsOfEvidence() {
        TellTale run = Scenes.withRun(3, 1);
        for (int kind : new int[] {0, 1, 3, 4, 128, 130, 255}) {
            run.smudge(0, 0, kind);
            Check.due("holds of a run with kind " + kind, run.holds(0), false);
            Check.due("judge of a run with kind " + kind, run.judge(2, 0), false);
        }
        TellTale fork = Scenes.withFork(3, 1);
        for (int kind : new int[] {0, 2, 3, 4, 129, 255}) {
            fork.smudge(0, 0, kind);
            Check.due("holds of a fork with kind " + kind, fork.holds(0), false);
        }
    }

    // kind, node and kinds of entries are such
    static void promise15LastNodeAndNoNode() {
        for (int nodes = 3; nodes <= 6; nodes++) {
            TellTale x = Scenes.withRun(nodes, 1);
            runHolds(x, nodes - 1, new int[][] {{3, 0, 1}}, 1, true);
            runHolds(x, nodes, new int[][] {{3, 0, 1}}, 1, false);
            runHolds(x, 255, new int[][] {{3, 0, 1}}, 1, false);
            TellTale y = Scenes.withFork(nodes, 1);
            forkHolds(y, nodes - 1, new int[][] {{1, 0, 1}}, 1, 12345, true);
            forkHolds(y, nodes, new int[][] {{1, 0, 1}}, 1, 12345, false);
            forkHolds(y, 255, new int[][] {{1, 0, 1}}, 1, 12345, false);
        }
    }

    static void promise15OtherKindsOfEntries() {
        for (int kind : new int[] {0, 4, 5, 128, 129, 131, 255}) {
            runHolds(Scenes.withRun(4, 1), 0, new int[][] {{kind, 0, 1}}, 1, false);
            runHolds(Scenes.withRun(4, 2), 0, new int[][] {{3, 1, 1}, {kind, 0, 1}}, 1, false);
            forkHolds(Scenes.withFork(4, 1), 2, new int[][] {{kind, 0, 1}}, 1, 0, false);
        }
        for (int kind = 1; kind <= 3; kind++) {
            runHolds(Scenes.withRun(4, 1), 0, new int[][] {{kind, 1, 1}}, 1, kind != 2);
            runHolds(Scenes.withRun(4, 2), 0, new int[][] {{3, 1, 1}, {kind, 0, 1}}, 1, true);
            forkHolds(Scenes.withFork(4, 1), 2, new int[][] {{kind, 0, 1}}, 1, 0, true);
        }
    }

    // A wrong kind ends no log: what stands behind it is neither a signature nor a number.
    static void promise15OtherKindInTheMidstOfAllThatIsRight() {
        int[][] first = {{3, 1, 0}};
        TellTale x = Scenes.withRun(4, 3);
        int[] bytes = Sums.run(0, new int[][] {{3, 1, 0}, {0, 0, 0}, {0, 0, 0}}, 1);
        long signature = Sums.sign(0, 1, Sums.head(first, 1));
        Sums.put(bytes, 10, signature, 8);
        Sums.put(bytes, 18, 1, 2);
        int kind = bytes[10];
        Check.due("the signature begins with no kind", kind == 0 || kind > 3, true);
        write(x, bytes);
        Check.due("run told behind one entry of three", x.holds(0), false);
        TellTale y = Scenes.withFork(4, 4);
        bytes = Sums.fork(0, new int[][] {{3, 1, 0}, {0, 0, 0}, {0, 0, 0}, {0, 0, 0}}, 1, 5);
        Sums.put(bytes, 10, signature, 8);
        Sums.put(bytes, 18, 1, 2);
        Sums.put(bytes, 20, 5, 8);
        Sums.put(bytes, 28, Sums.sign(0, 1, 5), 8);
        write(y, bytes);
        Check.due("fork told behind one entry of four", y.holds(0), false);
    }

    // the signature is that of the last head of these entries by that node
    static void promise15SignedByAnother() {
        int[][] entries = {{3, 1, 7}};
        TellTale x = Scenes.withRun(4, 1);
        for (int node = 0; node < 4; node++) {
            int[] bytes = Sums.run(0, entries, 1);
            Sums.put(bytes, 10, Sums.sign(node, 1, Sums.head(entries, 1)), 8);
            write(x, bytes);
            Check.due("run signed by " + node, x.holds(0), node == 0);
        }
        TellTale y = Scenes.withFork(4, 1);
        for (int node = 0; node < 4; node++) {
            int[] bytes = Sums.fork(0, entries, 1, 9);
            Sums.put(bytes, 10, Sums.sign(node, 1, Sums.head(entries, 1)), 8);
            write(y, bytes);
            Check.due("fork signed by " + node, y.holds(0), node == 0);
        }
    }

    static void promise15SignedOfAnotherNumber() {
        int[][] entries = {{3, 1, 7}, {3, 1, 8}};
        TellTale x = Scenes.withRun(4, 2);
        TellTale y = Scenes.withFork(4, 2);
        for (int number = 0; number <= 2; number++) {
            for (int head = 0; head <= 2; head++) {
                long signature = Sums.sign(0, number, Sums.head(entries, head));
                int[] bytes = Sums.run(0, entries, 1);
                Sums.put(bytes, 16, signature, 8);
                write(x, bytes);
                Check.due("run signed of " + number + " and " + head, x.holds(0), number == 2 && head == 2);
                bytes = Sums.fork(0, entries, 1, 9);
                Sums.put(bytes, 16, signature, 8);
                write(y, bytes);
                Check.due("fork signed of " + number + " and " + head, y.holds(0), number == 2 && head == 2);
            }
        }
    }

    // of a FORK the other signature is that of its number and head by that node
    static void promise15KeptOneSignedByAnother() {
        int[][] entries = {{1, 0, 1}, {1, 0, 3}};
        TellTale x = Scenes.withFork(4, 2);
        int[] bytes = Sums.fork(2, entries, 1, 12345);
        long[] wrong = {Sums.sign(1, 1, 12345), Sums.sign(2, 2, 12345), Sums.sign(2, 1, 12346), 0, 12345};
        for (long signature : wrong) {
            Sums.put(bytes, bytes.length - 8, signature, 8);
            write(x, bytes);
            Check.due("the kept one signed with " + signature, x.holds(0), false);
        }
        forkHolds(x, 2, entries, 1, 12345, true);
    }

    // the number is 1 up to how many there are
    static void promise15ForkOfNumberNought() {
        TellTale x = Scenes.withFork(4, 2);
        int[][] entries = {{1, 0, 1}, {1, 0, 3}};
        forkHolds(x, 0, entries, 0, 12345, false);
        forkHolds(x, 0, entries, 1, 12345, true);
    }

    static void promise15ForkOfNumbersUpToTheLast() {
        TellTale x = Scenes.withFork(4, 2);
        int[][] entries = {{1, 0, 1}, {1, 0, 3}};
        forkHolds(x, 0, entries, 2, 12345, true);
        forkHolds(x, 0, entries, 3, 12345, false);
        forkHolds(x, 0, entries, 151, 12345, false);
        forkHolds(x, 0, entries, 256 + 1, 12345, false);
        forkHolds(x, 0, entries, 65535, 12345, false);
    }

    // and the head is another one than that of these entries
    static void promise15ForkOfTheSameHead() {
        TellTale x = Scenes.withFork(3, 2);
        int[][] entries = {{1, 0, 1}, {1, 0, 2}};
        forkHolds(x, 0, entries, 1, Sums.head(entries, 1), false);
        forkHolds(x, 0, entries, 2, Sums.head(entries, 2), false);
        forkHolds(x, 0, entries, 1, Sums.head(entries, 2), true);
        forkHolds(x, 0, entries, 2, Sums.head(entries, 1), true);
        forkHolds(x, 0, entries, 2, 0, true);
        forkHolds(x, 0, entries, 2, -1, true);
    }

    // A fork tells nothing of what its machine does: who of an entry may be anything, and so may wrong ones.
    static void promise15ForkOfWrongEntries() {
        TellTale x = Scenes.withFork(4, 1);
        forkHolds(x, 2, new int[][] {{2, 200, 1}}, 1, 0, true);
        forkHolds(x, 2, new int[][] {{3, 2, -1}}, 1, 0, true);
        forkHolds(x, 2, new int[][] {{1, 255, 2}}, 1, 0, true);
    }

    // of a RUN the number that is told is that of the first WRONG entry: ... all but an INPUT with who 0 or a RECEIPT
    static void promise15RunOfAFirstEntryThatIsWrong() {
        int[][] wrong = {{3, 1, 0}, {3, 0, 0}, {3, 255, -1}, {1, 1, 1}, {1, 255, 1}, {1, 3, 2}};
        for (int[] entry : wrong) {
            for (int number = 0; number <= 2; number++) {
                runHolds(Scenes.withRun(4, 1), 0, new int[][] {entry}, number, number == 1);
            }
        }
        runHolds(Scenes.withRun(4, 1), 0, new int[][] {{3, 1, 1}}, 65535, false);
        runHolds(Scenes.withRun(4, 1), 0, new int[][] {{3, 1, 1}}, 257, false);
    }

    // a RECEIPT from another node
    static void promise15RunOfAReceiptFromItselfOrNoNode() {
        for (int node = 0; node < 4; node++) {
            for (int who : new int[] {0, 1, 2, 3, 4, 5, 6, 255}) {
                boolean wrong = who == node || who > 3;
                runHolds(Scenes.withRun(4, 1), node, new int[][] {{2, who, SILENT}}, 1, wrong);
                runHolds(Scenes.withRun(4, 1), node, new int[][] {{2, who, SILENT}}, 2, false);
            }
        }
        runHolds(Scenes.withRun(6, 1), 4, new int[][] {{2, 5, SILENT}}, 1, false);
        runHolds(Scenes.withRun(6, 1), 4, new int[][] {{2, 6, SILENT}}, 1, true);
    }

    // if a sending is due behind the last entry the number behind that is it
    static void promise15RunBehindTheLastEntry() {
        int[][] good = {{1, 0, 1}, {2, 1, SILENT}, {2, 3, SILENT}};
        int[][] due = {{1, 0, 2}, {1, 0, 0}, {2, 1, 5}, {2, 3, -3}};
        for (int number = 0; number <= 3; number++) {
            for (int[] entry : good) {
                runHolds(Scenes.withRun(4, 1), 0, new int[][] {entry}, number, false);
            }
            for (int[] entry : due) {
                runHolds(Scenes.withRun(4, 1), 0, new int[][] {entry}, number, number == 2);
            }
        }
    }

    // where a sending is due each other thing than just that
    static void promise15RunOfASecondEntryThatIsWrong() {
        int[][][] logs = {
            {{1, 0, 2}, {3, 1, 1}}, {{1, 0, 2}, {3, 2, 1}}, {{1, 0, 2}, {3, 1, 0}}, {{1, 0, 2}, {1, 0, 1}},
            {{1, 0, 2}, {2, 1, 1}}, {{1, 0, 1}, {1, 0, 2}}, {{1, 0, 1}, {1, 0, 1}}, {{1, 0, 1}, {3, 1, 0}},
            {{2, 1, 0}, {3, 1, 32}}, {{2, 1, 0}, {3, 2, 32}}, {{2, 1, 0}, {3, 1, 33}}, {{2, 1, SILENT}, {2, 2, 0}},
            {{1, 3, 2}, {3, 1, 1}}, {{1, 0, 1}, {1, 0, 7 << 8 | 3}}, {{2, 1, 0}, {2, 1, 32}}, {{2, 1, 0}, {1, 0, 32}}};
        int b = Sums.receipt(Sums.receipt(0, SILENT, 1), 0, 2);
        Check.due("that receipt makes an answer due", (b & 7) == 0, true);
        int[] wrongAt = {0, 2, 2, 2, 2, 0, 3, 2, 0, 2, 2, 3, 1, 3, 2, 2};
        for (int i = 0; i < logs.length; i++) {
            for (int number = 0; number <= 3; number++) {
                runHolds(Scenes.withRun(3, 2), 0, logs[i], number, number == wrongAt[i] && number > 0);
            }
        }
    }

    // the first WRONG entry
    static void promise15RunOfTheFirstOfTwoWrongEntries() {
        int[][] entries = {{3, 1, 1}, {3, 2, 1}, {1, 0, 2}};
        for (int number = 0; number <= 4; number++) {
            runHolds(Scenes.withRun(3, 3), 0, entries, number, number == 1);
        }
        int[][] later = {{1, 0, 1}, {1, 1, 1}, {3, 1, 1}};
        for (int number = 0; number <= 4; number++) {
            runHolds(Scenes.withRun(3, 3), 0, later, number, number == 2);
        }
    }

    // value in four ... (high first), of 32 bits with its sign
    static void promise15GreatestAndLeastValues() {
        for (int value : new int[] {Integer.MAX_VALUE, Integer.MIN_VALUE, -1, -2, 255, 256, 65536, 1 << 24}) {
            runHolds(Scenes.withRun(3, 1), 0, new int[][] {{3, 1, value}}, 1, true);
            forkHolds(Scenes.withFork(3, 1), 0, new int[][] {{3, 1, value}}, 1, value, true);
        }
    }

    static void promise15RefusesNoEvidence() {
        for (int bad : NO_EVIDENCE_OF_TWO) {
            Twins.refuse(Check.IAE, "holds(" + bad + ")", Scenes::busy, x -> x.holds(bad));
        }
        Twins.refuse(Check.IAE, "holds(0) of none", Scenes::fresh, x -> x.holds(0));
    }

    // Byte i of a piece of evidence, 0 .. 255; NONE if there is none.
    static void promise16AllBytesOfARun() {
        TellTale x = new TellTale();
        x.lie(2, 0, -2);
        x.audit(0, 2);
        int[] due = {2, 2, 0, 1, 3, 0, 255, 255, 255, 254, 0, 0, 0, 0, 0, 0, 0, 0, 0, 1};
        Sums.put(due, 10, Sums.sign(2, 1, Sums.hash(0, 3, 0, -2)), 8);
        for (int i = 0; i < due.length; i++) {
            Check.due("byteOf(0, " + i + ")", x.byteOf(0, i), due[i]);
        }
        Check.due("byteOf(0, 20)", x.byteOf(0, 20), -1);
    }

    static void promise16AllBytesOfAFork() {
        TellTale x = Scenes.withFork(4, 1);
        long kept = Sums.hash(0, 3, 1, SILENT);
        int[] due = new int[36];
        int[] start = {1, 0, 0, 1, 3, 1, 0, 0, 0, 1};
        System.arraycopy(start, 0, due, 0, 10);
        Sums.put(due, 10, Sums.sign(0, 1, Sums.hash(0, 3, 1, 1)), 8);
        Sums.put(due, 18, 1, 2);
        Sums.put(due, 20, kept, 8);
        Sums.put(due, 28, Sums.sign(0, 1, kept), 8);
        for (int i = 0; i < due.length; i++) {
            Check.due("byteOf(0, " + i + ")", x.byteOf(0, i), due[i]);
        }
        Check.due("byteOf(0, 36)", x.byteOf(0, 36), -1);
    }

    static void promise16NoneBeforeTheFirstAndBehindTheLast() {
        TellTale x = Scenes.withRun(3, 1);
        Check.due("byteOf(0, 19)", x.byteOf(0, 19), 1);
        for (int none : new int[] {20, 21, -1, -2, 929, 930, Integer.MIN_VALUE, Integer.MAX_VALUE}) {
            Check.due("byteOf(0, " + none + ")", x.byteOf(0, none), -1);
        }
    }

    static void promise16StaysAsItWasFound() {
        TellTale x = Scenes.withRun(3, 1);
        x.bend(0, 1, 7);
        x.lie(0, 1, 8);
        Check.due("entries told", x.byteOf(0, 3), 1);
        Check.due("value told", x.byteOf(0, 9), 0);
    }

    static void promise16FirstAndLastPiece() {
        TellTale x = Scenes.busy();
        Check.due("kind of the first", x.byteOf(0, 0), 1);
        Check.due("node of the first", x.byteOf(0, 1), 0);
        Check.due("last byte of the first", x.byteOf(0, 35) >= 0, true);
        Check.due("behind it", x.byteOf(0, 36), -1);
        Check.due("kind of the last", x.byteOf(1, 0), 2);
        Check.due("node of the last", x.byteOf(1, 1), 3);
        Check.due("last byte of the last", x.byteOf(1, 31), 3);
        Check.due("behind it", x.byteOf(1, 32), -1);
    }

    // IllegalArgumentException: there is no such evidence.
    static void promise16RefusesNoEvidence() {
        for (int bad : NO_EVIDENCE_OF_TWO) {
            Twins.refuse(Check.IAE, "byteOf(" + bad + ", 0)", Scenes::busy, x -> x.byteOf(bad, 0));
            Twins.refuse(Check.IAE, "byteOf(" + bad + ", -1)", Scenes::busy, x -> x.byteOf(bad, -1));
        }
        Twins.refuse(Check.IAE, "byteOf(0, 0) of none", Scenes::fresh, x -> x.byteOf(0, 0));
    }

    // Byte i of a piece of evidence becomes another one: what it was.
    static void promise17GreatestAndLeastByte() {
        TellTale x = Scenes.withRun(3, 1);
        Check.due("smudge(0, 2, 255)", x.smudge(0, 2, 255), 0);
        Check.due("byteOf(0, 2)", x.byteOf(0, 2), 255);
        Check.due("smudge(0, 2, 128)", x.smudge(0, 2, 128), 255);
        Check.due("smudge(0, 2, 127)", x.smudge(0, 2, 127), 128);
        Check.due("smudge(0, 2, 0)", x.smudge(0, 2, 0), 127);
        Check.due("byteOf(0, 2) again", x.byteOf(0, 2), 0);
        Check.due("holds again", x.holds(0), true);
    }

    static void promise17FirstAndLastPlace() {
        TellTale x = Scenes.withRun(3, 1);
        Check.due("the first byte", x.smudge(0, 0, 7), 2);
        Check.due("the last byte", x.smudge(0, 19, 9), 1);
        Check.due("byteOf(0, 0)", x.byteOf(0, 0), 7);
        Check.due("byteOf(0, 19)", x.byteOf(0, 19), 9);
        Check.due("byteOf(0, 1)", x.byteOf(0, 1), 0);
        Check.due("byteOf(0, 18)", x.byteOf(0, 18), 0);
    }

    static void promise17OfThatPieceAlone() {
        TellTale x = Scenes.busy();
        x.smudge(1, 5, 99);
        Check.due("byteOf(1, 5)", x.byteOf(1, 5), 99);
        Check.due("byteOf(0, 5)", x.byteOf(0, 5), 1);
        Check.due("the log stays", x.entry(3, 1, 1), 2);
    }

    static void promise17ToWhatItIs() {
        TellTale x = Scenes.busy();
        for (int i = 0; i < 36; i++) {
            int was = x.byteOf(0, i);
            Check.due("smudge of byte " + i, x.smudge(0, i, was), was);
        }
        Check.due("holds", x.holds(0), true);
        Check.due("the length stays", x.byteOf(0, 36), -1);
    }

    // IllegalArgumentException: also if b is not 0 .. 255.
    static void promise17RefusesWhatIsNoByte() {
        for (int bad : new int[] {-1, 256, 257, -128, -256, Integer.MIN_VALUE, Integer.MAX_VALUE}) {
            Twins.refuse(Check.IAE, "smudge(0, 0, " + bad + ")", Scenes::busy, x -> x.smudge(0, 0, bad));
        }
    }

    static void promise17RefusesNoPlace() {
        for (int bad : new int[] {-1, 32, 33, 36, 929, 930, Integer.MIN_VALUE, Integer.MAX_VALUE}) {
            Twins.refuse(Check.IAE, "smudge(1, " + bad + ", 1)", Scenes::busy, x -> x.smudge(1, bad, 1));
        }
    }

    static void promise17RefusesNoEvidence() {
        for (int bad : NO_EVIDENCE_OF_TWO) {
            Twins.refuse(Check.IAE, "smudge(" + bad + ", 0, 0)", Scenes::busy, x -> x.smudge(bad, 0, 0));
        }
        Twins.refuse(Check.IAE, "smudge(0, 0, 0) of none", Scenes::fresh, x -> x.smudge(0, 0, 0));
    }
}
