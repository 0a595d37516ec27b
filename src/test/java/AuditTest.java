/** Promises 13 and 18: audit() and verdict(). Behind each // the sentence of the document that the test holds to. */
public final class AuditTest {
    private static final int SILENT = Scenes.SILENT;

    public static void main(String[] args) {
        Check.all(AuditTest.class);
    }

    private static void isEvidence(TellTale x, int evidence, int[] bytes) {
        for (int i = 0; i < bytes.length; i++) {
            Check.due("byteOf(" + evidence + ", " + i + ")", x.byteOf(evidence, i), bytes[i]);
        }
        Check.due("byteOf(" + evidence + ", " + bytes.length + ")", x.byteOf(evidence, bytes.length), TellTale.NONE);
        Check.due("holds(" + evidence + ")", x.holds(evidence), true);
    }

    private static void isRun(TellTale x, int witness, int node, int[][] entries, int number) {
        int before = x.total(2);
        Check.due("audit(" + witness + ", " + node + ")", x.audit(witness, node), 2);
        Check.due("evidence", x.total(2), before + 1);
        isEvidence(x, before, Sums.run(node, entries, number));
    }

    // WITNESSES of node i are the nodes i + 1 and i + 2, modulo n. IllegalArgumentException: also if it is no witness
    static void promise13OnlyItsTwoWitnesses() {
        for (int nodes = 3; nodes <= 6; nodes++) {
            TellTale x = Scenes.opened(nodes);
            for (int node = 0; node < nodes; node++) {
                for (int far = 0; far < nodes; far++) {
                    int of = node;
                    int by = (node + far) % nodes;
                    String due = far == 1 || far == 2 ? "nothing" : Check.IAE;
                    Check.due("audit(" + by + ", " + of + ") of " + nodes, Check.outcome(() -> x.audit(by, of)), due);
                }
            }
        }
    }

    static void promise13WitnessesOfTheLastNodes() {
        for (int nodes = 3; nodes <= 6; nodes++) {
            TellTale x = Scenes.opened(nodes);
            x.lie(nodes - 1, 0, 5);
            x.lie(nodes - 2, 0, 5);
            Check.due("first witness of the last", x.audit(0, nodes - 1), 2);
            Check.due("second witness of the last", x.audit(1, nodes - 1), 2);
            Check.due("first witness of the last but one", x.audit(nodes - 1, nodes - 2), 2);
            Check.due("second witness of the last but one", x.audit(0, nodes - 2), 2);
        }
    }

    static void promise13RefusesItself() {
        for (int i = 0; i < 4; i++) {
            int node = i;
            Twins.refuse(Check.IAE, "audit(" + i + ", " + i + ")", Scenes::busy, x -> x.audit(node, node));
        }
    }

    static void promise13RefusesOneThatIsNoWitness() {
        for (int i = 0; i < 4; i++) {
            int node = i;
            int by = (i + 3) % 4;
            Twins.refuse(Check.IAE, "audit(" + by + ", " + i + ")", Scenes::busy, x -> x.audit(by, node));
        }
        for (int far = 3; far <= 5; far++) {
            int by = (4 + far) % 6;
            Twins.refuse(Check.IAE, "audit(" + by + ", 4) of six", () -> Scenes.withRun(6, 1), x -> x.audit(by, 4));
        }
    }

    // there is no such node
    static void promise13RefusesNoWitnessOrNode() {
        for (int bad : new int[] {-1, -2, 4, 5, 6, Integer.MIN_VALUE, Integer.MAX_VALUE}) {
            Twins.refuse(Check.IAE, "audit(" + bad + ", 3)", Scenes::busy, x -> x.audit(bad, 3));
            Twins.refuse(Check.IAE, "audit(" + bad + ", 2)", Scenes::busy, x -> x.audit(bad, 2));
            Twins.refuse(Check.IAE, "audit(0, " + bad + ")", Scenes::busy, x -> x.audit(0, bad));
            Twins.refuse(Check.IAE, "audit(1, " + bad + ")", Scenes::busy, x -> x.audit(1, bad));
        }
        Twins.refuse(Check.IAE, "audit(MIN, MAX)", Scenes::busy, x -> x.audit(Integer.MIN_VALUE, Integer.MAX_VALUE));
    }

    // if the node HIDES: SUSPECTED
    static void promise13SuspectedForHiding() {
        TellTale x = new TellTale();
        x.input(0, 1);
        x.hide(0, true);
        Check.due("audit", x.audit(1, 0), 1);
        Check.due("verdict", x.verdict(1, 0), 1);
        Check.due("verdict of the other witness", x.verdict(2, 0), 0);
        Check.due("nothing is kept", x.about(1, 3), 0);
        x.hide(0, false);
        Check.due("audit of one that hides no more", x.audit(1, 0), 0);
        Check.due("verdict then", x.verdict(1, 0), 0);
    }

    static void promise13HidingGoesBeforeForkAndRun() {
        TellTale x = new TellTale();
        x.lie(0, 1, SILENT);
        x.deliver(0);
        x.bend(0, 1, 5);
        x.hide(0, true);
        Check.due("audit", x.audit(1, 0), 1);
        Check.due("no evidence", x.total(2), 0);
        x.hide(0, false);
        Check.due("audit of what it hid", x.audit(1, 0), 2);
        Check.due("evidence", x.total(2), 1);
    }

    // FORK ...: if the witness keeps a head of it of another value than that number of the log has
    static void promise13ForkOfTheLastNumber() {
        TellTale x = Scenes.opened(6);
        x.input(5, 1);
        x.input(5, 7 << 8 | 2);
        long kept = Sums.head(new int[][] {{1, 0, 1}, {1, 0, 7 << 8 | 2}}, 2);
        x.audit(0, 5);
        Check.due("kept", x.about(0, 3), 1);
        x.bend(5, 2, -2);
        Check.due("audit", x.audit(0, 5), 2);
        isEvidence(x, 0, Sums.fork(5, new int[][] {{1, 0, 1}, {1, 0, -2}}, 2, kept));
        Check.due("the new head is not kept", x.about(0, 3), 1);
    }

    static void promise13ForkOfANumberBeforeTheLast() {
        TellTale x = Scenes.opened(6);
        x.input(5, 1);
        x.input(5, 7 << 8 | 2);
        long kept = x.head(5, 2);
        x.audit(0, 5);
        x.bend(5, 2, -2);
        x.input(5, 2);
        int[][] bent = {{1, 0, 1}, {1, 0, -2}, {1, 0, 2}};
        Check.due("the other witness sees no fork", x.audit(1, 5), 0);
        Check.due("audit", x.audit(0, 5), 2);
        isEvidence(x, 0, Sums.fork(5, bent, 2, kept));
    }

    static void promise13ForkOfNumberOne() {
        TellTale x = new TellTale();
        x.input(0, 1);
        long kept = x.head(0, 1);
        x.audit(2, 0);
        x.bend(0, 1, 3);
        x.input(0, 2);
        Check.due("audit", x.audit(2, 0), 2);
        isEvidence(x, 0, Sums.fork(0, new int[][] {{1, 0, 3}, {1, 0, 2}}, 1, kept));
    }

    static void promise13NoForkOfANumberThatTheLogHasNot() {
        TellTale x = new TellTale();
        x.lie(0, 1, SILENT);
        x.lie(0, 1, SILENT);
        x.deliver(1);
        x.bend(0, 1, 77);
        x.cut(0, 1);
        Check.due("kept number 2 is beyond the log: a run", x.audit(1, 0), 2);
        isEvidence(x, 0, Sums.run(0, new int[][] {{3, 1, 77}}, 1));
    }

    static void promise13NoForkOfAnotherNodesHead() {
        TellTale x = Scenes.opened(4);
        x.lie(2, 1, SILENT);
        x.lie(3, 1, SILENT);
        x.deliver(0);
        x.deliver(0);
        x.input(0, 1);
        Check.due("kept", x.about(1, 3), 2);
        Check.due("audit", x.audit(1, 0), 0);
    }

    static void promise13ForkByWhatCameByANote() {
        TellTale x = Scenes.opened(5);
        x.lie(0, 4, SILENT);
        x.deliver(0);
        x.forward(4);
        x.deliver(1);
        x.bend(0, 1, 6);
        Check.due("audit by the witness with the note", x.audit(2, 0), 2);
        Check.due("kind", x.byteOf(0, 0), 1);
        Check.due("audit by the one without", x.audit(1, 0), 2);
        Check.due("kind", x.byteOf(1, 0), 2);
    }

    // by the one of least number. Lies 1, 2, 3 of node 0 go to 1, which takes them in the order 3, 1, 2.
    static void promise13ForkOfLeastNumber() {
        for (int bent = 1; bent <= 3; bent++) {
            TellTale x = new TellTale();
            int[][] entries = {{3, 1, SILENT}, {3, 1, SILENT + 1}, {3, 1, SILENT + 2}};
            for (int[] entry : entries) {
                x.lie(0, 1, entry[2]);
            }
            x.deliver(2);
            x.deliver(0);
            x.deliver(0);
            long kept = x.head(0, bent);
            x.bend(0, bent, 77);
            entries[bent - 1][2] = 77;
            Check.due("audit", x.audit(1, 0), 2);
            isEvidence(x, 0, Sums.fork(0, entries, bent, kept));
        }
    }

    // (of several, that kept first). Node 1 keeps two heads of number 1, by a message and by a note, in either order.
    static void promise13ForkByWhatWasKeptFirst() {
        int[][] toOne = {{3, 1, SILENT}};
        int[][] toTwo = {{3, 2, SILENT}};
        long[] heads = {Sums.head(toOne, 1), Sums.head(toTwo, 1)};
        for (int first = 0; first < 2; first++) {
            for (int shown = 0; shown < 3; shown++) {
                TellTale x = Scenes.opened(4);
                x.lie(0, 2, SILENT);
                x.cut(0, 0);
                x.lie(0, 1, SILENT);
                x.deliver(0);
                x.forward(2);
                x.deliver(first);
                x.deliver(0);
                Check.due("kept", x.about(1, 3), 2);
                x.cut(0, 0);
                int[][] log = shown == 0 ? toOne : shown == 1 ? toTwo : new int[][] {{3, 3, 6}};
                x.lie(0, log[0][1], log[0][2]);
                Check.due("audit", x.audit(1, 0), 2);
                long other = shown == 0 ? heads[1] : shown == 1 ? heads[0] : heads[first];
                isEvidence(x, 0, Sums.fork(0, log, 1, other));
            }
        }
    }

    // Otherwise, if the log is not as its machine does ...: RUN
    static void promise13ForkGoesBeforeRunAndWhatIsGone() {
        TellTale x = new TellTale();
        x.lie(0, 1, SILENT);
        x.lie(0, 1, SILENT);
        x.deliver(0);
        x.deliver(0);
        x.bend(0, 1, 3);
        x.cut(0, 1);
        Check.due("audit of a lie, forked, with a number gone", x.audit(1, 0), 2);
        Check.due("kind", x.byteOf(0, 0), 1);
        Check.due("kept", x.about(1, 3), 2);
        Check.due("the other finds", x.audit(2, 0), 2);
        Check.due("the run", x.byteOf(1, 0), 2);
    }

    // else all but an INPUT with who 0 or a RECEIPT from another node: a sending where none is due
    static void promise13RunOfALie() {
        TellTale x = Scenes.opened(5);
        x.input(3, 2);
        x.lie(3, 0, -6);
        x.input(3, 1);
        isRun(x, 0, 3, new int[][] {{1, 0, 2}, {3, 4, 1}, {3, 0, -6}, {1, 0, 1}}, 3);
    }

    static void promise13RunOfALieAtFirst() {
        TellTale x = new TellTale();
        x.lie(2, 0, 1);
        isRun(x, 1, 2, new int[][] {{3, 0, 1}}, 1);
        Check.due("nothing is kept", x.about(1, 3), 0);
    }

    // where a sending is due each other thing than just that: another value, and another kind
    static void promise13RunOfBentLogs() {
        int[][] log = {{1, 0, 2}, {3, 1, 1}, {1, 0, 3}, {1, 0, 5}, {3, 2, 0}};
        int a = 31 * (31 * 2 + 3) + 5;
        log[4] = new int[] {3, Sums.inputSendsTo(0, a, 3), a >>> 1};
        int[][] bends = {{1, 3, 2}, {1, 4, 2}, {2, 9, 2}, {3, 4, 4}, {4, 6, 5}, {5, -1, 5}};
        for (int[] bend : bends) {
            TellTale x = new TellTale();
            int[][] entries = new int[5][];
            for (int k = 0; k < 5; k++) {
                entries[k] = log[k].clone();
                if (entries[k][0] == 1) {
                    x.input(0, entries[k][2]);
                }
            }
            Check.due("entries", x.about(0, 0), 5);
            x.bend(0, bend[0], bend[1]);
            entries[bend[0] - 1][2] = bend[1];
            isRun(x, 2, 0, entries, bend[2]);
        }
    }

    // An input that sends is cut, what it should have sent is told to another node, or of another value.
    static void promise13RunOfASendingToAnother() {
        int[][] lies = {{2, 1}, {1, 2}, {1, 0}};
        for (int[] lie : lies) {
            TellTale x = new TellTale();
            x.input(0, 2);
            x.cut(0, 1);
            x.lie(0, lie[0], lie[1]);
            isRun(x, 1, 0, new int[][] {{1, 0, 2}, {3, lie[0], lie[1]}}, 2);
        }
        TellTale x = new TellTale();
        x.input(0, 2);
        x.cut(0, 1);
        x.lie(0, 1, 1);
        Check.due("just that", x.audit(1, 0), 0);
    }

    static void promise13RunOfReceipts() {
        TellTale x = Scenes.opened(4);
        x.lie(3, 0, SILENT);
        x.lie(2, 0, 9);
        x.deliver(0);
        x.deliver(0);
        x.input(0, 6);
        int b = Sums.receipt(Sums.receipt(0, SILENT, 3), 9, 2);
        Check.due("B", x.about(0, 2), b);
        Check.due("audit with receipts", x.audit(1, 0), 0);
        int[][] entries = {{2, 3, SILENT}, {2, 2, 9}, {3, 2, b}, {1, 0, 6}, {3, 1, 3 ^ b}};
        Check.due("entries", x.about(0, 0), 5);
        x.bend(0, 1, SILENT + 1);
        entries[0][2]++;
        isRun(x, 2, 0, entries, 3);
    }

    // if a sending is due behind the last entry the number behind that is it
    static void promise13RunBehindAnInput() {
        TellTale x = new TellTale();
        x.input(0, 1);
        x.input(0, 1);
        Check.due("cut", x.cut(0, 2), 1);
        isRun(x, 1, 0, new int[][] {{1, 0, 1}, {1, 0, 1}}, 3);
        x.input(1, 1);
        x.bend(1, 1, 4);
        isRun(x, 2, 1, new int[][] {{1, 0, 4}}, 2);
    }

    static void promise13RunBehindAReceipt() {
        TellTale x = new TellTale();
        x.lie(0, 2, 1);
        x.deliver(0);
        Check.due("receipt and answer", x.about(2, 0), 2);
        x.cut(2, 1);
        isRun(x, 0, 2, new int[][] {{2, 0, 1}}, 2);
    }

    static void promise13RunBehind149Entries() {
        TellTale x = Scenes.fullLog();
        x.cut(1, 149);
        Check.due("audit", x.audit(2, 1), 2);
        int at = 4 + 149 * 6 + 8;
        Check.due("high byte of the number", x.byteOf(0, at), 0);
        Check.due("low byte of the number", x.byteOf(0, at + 1), 150);
        Check.due("behind it", x.byteOf(0, at + 2), TellTale.NONE);
        Check.due("holds", x.holds(0), true);
    }

    // A LOG has ENTRIES 1, 2, .., at most 150
    static void promise13RunOfAFullLog() {
        TellTale x = new TellTale();
        int[][] entries = new int[150][];
        for (int i = 0; i < 148; i++) {
            entries[i] = new int[] {1, 0, i == 0 ? 1 : -30};
            x.input(0, entries[i][2]);
        }
        entries[148] = new int[] {1, 0, -29};
        entries[149] = new int[] {3, 1, 1};
        Check.due("the last input", x.input(0, -29), 150);
        Check.due("audit of a full log", x.audit(1, 0), 0);
        x.bend(0, 150, 2);
        entries[149][2] = 2;
        Check.due("audit of a bent full log", x.audit(2, 0), 2);
        int[] bytes = Sums.run(0, entries, 150);
        // An object is good for 512 calls: not all 914 bytes are looked at.
        for (int i = 0; i < bytes.length; i += i >= 890 ? 1 : 10) {
            Check.due("byteOf(0, " + i + ")", x.byteOf(0, i), bytes[i]);
        }
        Check.due("byte behind the last", x.byteOf(0, bytes.length), TellTale.NONE);
        Check.due("holds", x.holds(0), true);
    }

    static void promise13ForkOfAFullLog() {
        TellTale x = Scenes.fullLog();
        Check.due("audit of a full log", x.audit(2, 1), 0);
        long kept = x.head(1, 150);
        x.bend(1, 150, -5);
        Check.due("audit of a bent one", x.audit(2, 1), 2);
        int[][] entries = new int[150][];
        for (int i = 0; i < 150; i++) {
            entries[i] = new int[] {1, 0, i == 0 ? 1 : i == 148 ? -29 : -30};
        }
        entries[149] = new int[] {3, 2, -5};
        int[] bytes = Sums.fork(1, entries, 150, kept);
        Check.due("930 bytes", bytes.length, 930);
        for (int i = 0; i < bytes.length; i += i >= 890 ? 1 : 10) {
            Check.due("byteOf(0, " + i + ")", x.byteOf(0, i), bytes[i]);
        }
        Check.due("byte behind the last", x.byteOf(0, 930), TellTale.NONE);
        Check.due("holds", x.holds(0), true);
    }

    static void promise13RunOfLiesAlone() {
        TellTale x = Scenes.opened(5);
        for (int i = 0; i < 149; i++) {
            x.lie(1, 2, 0);
        }
        Check.due("audit of lies", x.audit(2, 1), 2);
        Check.due("high byte", x.byteOf(0, 2), 0);
        Check.due("low byte", x.byteOf(0, 3), 149);
        Check.due("last byte", x.byteOf(0, 907), 1);
        Check.due("behind it", x.byteOf(0, 908), TellTale.NONE);
    }

    // Otherwise, if the witness keeps a head of a number that the log has not: SUSPECTED.
    static void promise13SuspectedForOneThatIsGone() {
        TellTale x = new TellTale();
        x.input(0, 1);
        x.input(0, 2);
        x.audit(1, 0);
        x.cut(0, 1);
        Check.due("audit of a cut log", x.audit(1, 0), 1);
        Check.due("verdict", x.verdict(1, 0), 1);
        Check.due("no evidence", x.total(2), 0);
        Check.due("the last head is not kept", x.about(1, 3), 1);
        Check.due("by one that keeps none", x.audit(2, 0), 0);
    }

    static void promise13SuspectedForAllThatIsGone() {
        TellTale x = new TellTale();
        x.input(0, 1);
        x.audit(1, 0);
        x.cut(0, 0);
        Check.due("audit of an empty log", x.audit(1, 0), 1);
        Check.due("by one that keeps none", x.audit(2, 0), 0);
    }

    static void promise13TrustedWhenItIsThereAgain() {
        TellTale x = new TellTale();
        x.input(0, 1);
        x.input(0, 2);
        x.audit(1, 0);
        x.cut(0, 0);
        Check.due("audit of an empty log", x.audit(1, 0), 1);
        x.input(0, 2);
        x.bend(0, 1, 1);
        x.input(0, 2);
        Check.due("entries again", x.about(0, 0), 2);
        Check.due("audit of the same log again", x.audit(1, 0), 0);
        Check.due("verdict then", x.verdict(1, 0), 0);
    }

    static void promise13LastNumberIsNotGone() {
        TellTale x = new TellTale();
        x.input(0, 1);
        x.input(0, 2);
        x.audit(1, 0);
        Check.due("audit of as many entries", x.audit(1, 0), 0);
        x.input(0, 2);
        Check.due("audit of one more", x.audit(1, 0), 0);
        x.cut(0, 2);
        Check.due("audit of one less", x.audit(1, 0), 1);
    }

    static void promise13AnothersHeadIsNotGone() {
        TellTale x = Scenes.opened(4);
        x.lie(2, 1, SILENT);
        x.deliver(0);
        Check.due("audit of an empty log", x.audit(1, 0), 0);
    }

    static void promise13RunGoesBeforeWhatIsGone() {
        TellTale x = new TellTale();
        x.input(0, 1);
        x.input(0, 2);
        x.audit(1, 0);
        x.cut(0, 0);
        x.lie(0, 2, 5);
        isRun(x, 1, 0, new int[][] {{3, 2, 5}}, 1);
    }

    // Otherwise TRUSTED
    static void promise13TrustedIfAsItsMachineDoes() {
        TellTale x = Scenes.opened(4);
        x.input(0, 2);
        x.input(0, 3);
        x.input(1, 10);
        x.deliver(0);
        x.deliver(0);
        x.deliver(0);
        for (int node = 0; node < 4; node++) {
            Check.due("by the first witness of " + node, x.audit((node + 1) % 4, node), 0);
            Check.due("by the second witness of " + node, x.audit((node + 2) % 4, node), 0);
        }
        Check.due("evidence", x.total(2), 0);
    }

    static void promise13TrustedIfBentAsAMachineMayDo() {
        TellTale x = new TellTale();
        x.input(0, 1);
        x.bend(0, 1, 3);
        Check.due("audit", x.audit(1, 0), 0);
    }

    // and the witness keeps the last head (not number 0), if it does not yet
    static void promise13KeepsTheLastHead() {
        TellTale x = new TellTale();
        x.input(0, 1);
        x.input(0, 2);
        Check.due("audit", x.audit(1, 0), 0);
        Check.due("kept", x.about(1, 3), 1);
        Check.due("log of the witness", x.about(1, 0), 0);
        x.bend(0, 1, 3);
        Check.due("a bent one, and it is the last head", x.audit(1, 0), 2);
        Check.due("number", x.byteOf(0, 4 + 12 + 8 + 1), 2);
    }

    static void promise13KeepsNoHeadOfAnEmptyLog() {
        TellTale x = new TellTale();
        Check.due("audit", x.audit(1, 0), 0);
        Check.due("kept", x.about(1, 3), 0);
        x.input(0, 1);
        x.cut(0, 0);
        Check.due("audit of a cut log", x.audit(1, 0), 0);
        Check.due("kept then", x.about(1, 3), 0);
        Check.due("nothing to forward", x.forward(1), 0);
    }

    static void promise13KeepsTheLastHeadOnce() {
        TellTale x = new TellTale();
        x.input(0, 1);
        x.audit(1, 0);
        Check.due("audit again", x.audit(1, 0), 0);
        Check.due("kept once", x.about(1, 3), 1);
        x.input(0, 2);
        x.audit(1, 0);
        Check.due("kept then", x.about(1, 3), 2);
    }

    static void promise13KeepsWhatCameByANoteOnce() {
        TellTale x = new TellTale();
        x.input(0, 1);
        x.audit(1, 0);
        x.forward(1);
        x.deliver(0);
        Check.due("noted", x.about(2, 3), 1);
        Check.due("audit by the other", x.audit(2, 0), 0);
        Check.due("it kept that already", x.about(2, 3), 1);
    }

    // FORK and RUN make EVIDENCE, and it is EXPOSED for that witness for ever: it is not audited any more.
    static void promise13ExposedForEver() {
        TellTale x = new TellTale();
        x.lie(0, 1, 5);
        Check.due("audit", x.audit(1, 0), 2);
        Check.due("again", x.audit(1, 0), 2);
        Check.due("evidence", x.total(2), 1);
        x.cut(0, 0);
        x.input(0, 1);
        Check.due("with a good log", x.audit(1, 0), 2);
        Check.due("kept", x.about(1, 3), 0);
        Check.due("evidence still", x.total(2), 1);
        Check.due("verdict", x.verdict(1, 0), 2);
    }

    static void promise13ExposedThoughItHides() {
        TellTale x = Scenes.withRun(3, 1);
        x.hide(0, true);
        Check.due("audit of an exposed one that hides", x.audit(1, 0), 2);
        Check.due("audit by the other", x.audit(2, 0), 1);
        Check.due("evidence", x.total(2), 1);
    }

    static void promise13ExposedThoughItsEvidenceIsSmudged() {
        TellTale x = Scenes.withRun(3, 1);
        x.smudge(0, 0, 9);
        Check.due("audit", x.audit(1, 0), 2);
        Check.due("evidence", x.total(2), 1);
    }

    static void promise13ExposedForThatWitnessAlone() {
        TellTale x = Scenes.withRun(4, 1);
        Check.due("verdict of the other witness", x.verdict(2, 0), 0);
        x.cut(0, 0);
        Check.due("audit by the other, with a good log", x.audit(2, 0), 0);
        Check.due("verdict of another node", x.verdict(3, 0), 0);
    }

    // A witness exposes a node once: 12 pieces are the most, so no call ever finds 40 (LimitsTest reaches in for that).
    static void promise13TwelvePiecesAtMost() {
        TellTale x = Scenes.opened(6);
        for (int node = 0; node < 6; node++) {
            x.lie(node, (node + 1) % 6, node);
        }
        for (int round = 0; round < 4; round++) {
            for (int node = 0; node < 6; node++) {
                Check.due("first witness", x.audit((node + 1) % 6, node), 2);
                Check.due("second witness", x.audit((node + 2) % 6, node), 2);
            }
            Check.due("evidence", x.total(2), 12);
        }
        for (int i = 0; i < 12; i++) {
            Check.due("node of evidence " + i, x.byteOf(i, 1), i / 2);
            Check.due("holds(" + i + ")", x.holds(i), true);
        }
        Check.iae("holds(12)", () -> x.holds(12));
    }

    // What a node thinks of another one: 0, 1, 2 as of audit().
    static void promise18TrustedSuspectedExposed() {
        TellTale x = Scenes.opened(4);
        x.hide(0, true);
        x.lie(1, 2, 5);
        x.audit(1, 0);
        x.audit(3, 1);
        x.audit(3, 2);
        int[][] due = {{-1, 0, 0, 0}, {1, -1, 0, 0}, {0, 0, -1, 0}, {0, 2, 0, -1}};
        for (int node = 0; node < 4; node++) {
            for (int of = 0; of < 4; of++) {
                if (node != of) {
                    Check.due("verdict(" + node + ", " + of + ")", x.verdict(node, of), due[node][of]);
                }
            }
        }
    }

    static void promise18LastAuditCounts() {
        TellTale x = new TellTale();
        for (int round = 0; round < 2; round++) {
            x.hide(0, true);
            x.audit(2, 0);
            Check.due("suspected", x.verdict(2, 0), 1);
            x.hide(0, false);
            Check.due("as of the last audit", x.verdict(2, 0), 1);
            Check.due("and so it stays", x.verdict(2, 0), 1);
            x.audit(2, 0);
            Check.due("trusted again", x.verdict(2, 0), 0);
        }
    }

    static void promise18OfNoWitnessToo() {
        TellTale x = Scenes.withRun(6, 1);
        Check.due("verdict(5, 0)", x.verdict(5, 0), 0);
        x.judge(5, 0);
        Check.due("verdict(5, 0) then", x.verdict(5, 0), 2);
        Check.due("verdict(0, 5)", x.verdict(0, 5), 0);
    }

    // IllegalArgumentException: also of itself.
    static void promise18RefusesItself() {
        for (int i = 0; i < 4; i++) {
            int node = i;
            Twins.refuse(Check.IAE, "verdict(" + i + ", " + i + ")", Scenes::busy, x -> x.verdict(node, node));
        }
    }

    static void promise18RefusesNoNode() {
        for (int bad : new int[] {-1, 4, 5, 6, Integer.MIN_VALUE, Integer.MAX_VALUE}) {
            Twins.refuse(Check.IAE, "verdict(" + bad + ", 0)", Scenes::busy, x -> x.verdict(bad, 0));
            Twins.refuse(Check.IAE, "verdict(0, " + bad + ")", Scenes::busy, x -> x.verdict(0, bad));
            Twins.refuse(Check.IAE, "verdict(" + bad + ", " + bad + ")", Scenes::busy, x -> x.verdict(bad, bad));
        }
    }
}
