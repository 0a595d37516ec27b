/**
 * Promises 9 to 12, 19 and 20: lie(), bend(), cut(), hide(), entry() and head(). Behind each // the sentence of the
 * document that the test holds to.
 */
public final class LogTest {
    private static final int SILENT = Scenes.SILENT;
    private static final int[] NO_NODES_OF_FOUR = {-1, 4, 5, 6, Integer.MIN_VALUE, Integer.MAX_VALUE};

    public static void main(String[] args) {
        Check.all(LogTest.class);
    }

    private static void isLog(TellTale x, int node, int[][] entries) {
        Check.due("entries of " + node, x.about(node, 0), entries.length);
        for (int k = 1; k <= entries.length; k++) {
            for (int what = 0; what <= 2; what++) {
                Check.due("entry(" + node + ", " + k + ", " + what + ")", x.entry(node, k, what), entries[k - 1][what]);
            }
        }
        for (int k = 0; k <= entries.length; k++) {
            Check.due("head(" + node + ", " + k + ")", x.head(node, k), Sums.head(entries, k));
        }
    }

    // Node 0: an input, what it sent, an input. Node 1: a receipt and the answer to it.
    private static TellTale twoLogs() {
        TellTale x = new TellTale();
        x.input(0, 2);
        x.input(0, 5);
        x.deliver(0);
        isLog(x, 0, new int[][] {{1, 0, 2}, {3, 1, 1}, {1, 0, 5}});
        isLog(x, 1, new int[][] {{2, 0, 1}, {3, 0, 32}});
        return x;
    }

    // A node sends and enters what its machine does not: how many entries its log has then.
    static void promise09EntersAndSends() {
        TellTale x = Scenes.opened(4);
        x.input(2, 3);
        Check.due("lie(2, 0, -7)", x.lie(2, 0, -7), 2);
        isLog(x, 2, new int[][] {{1, 0, 3}, {3, 0, -7}});
        Check.due("letters", x.total(0), 1);
        Check.due("sent", x.total(1), 1);
        Check.due("deliver", x.deliver(0), true);
        isLog(x, 0, new int[][] {{2, 2, -7}});
        Check.due("B of the receiver", x.about(0, 2), Sums.receipt(0, -7, 2));
    }

    static void promise09ItsMachineStays() {
        TellTale x = new TellTale();
        x.input(2, 3);
        x.lie(1, 2, SILENT);
        x.deliver(0);
        int b = x.about(2, 2);
        x.lie(2, 0, 4);
        Check.due("A", x.about(2, 1), 3);
        Check.due("B", x.about(2, 2), b);
        Check.due("its next entry", x.input(2, 2), 4);
        Check.due("A then", x.about(2, 1), 95);
    }

    static void promise09EachNodeToEachOther() {
        for (int nodes = 3; nodes <= 6; nodes++) {
            TellTale x = Scenes.opened(nodes);
            for (int node = 0; node < nodes; node++) {
                for (int to = 0; to < nodes; to++) {
                    if (to != node) {
                        x.cut(node, 0);
                        Check.due("lie(" + node + ", " + to + ", 1)", x.lie(node, to, 1), 1);
                        Check.due("who", x.entry(node, 1, 1), to);
                    }
                }
            }
        }
    }

    static void promise09GreatestAndLeastValue() {
        TellTale x = new TellTale();
        x.lie(1, 2, Integer.MAX_VALUE);
        x.lie(1, 2, Integer.MIN_VALUE);
        x.lie(1, 2, -1);
        isLog(x, 1, new int[][] {{3, 2, Integer.MAX_VALUE}, {3, 2, Integer.MIN_VALUE}, {3, 2, -1}});
        Check.due("deliver", x.deliver(1), true);
        Check.due("value taken", x.entry(2, 1, 2), Integer.MIN_VALUE);
    }

    // LETTERS lie in a row of 200 at most, what is sent into a full one is lost.
    static void promise09SendsIntoTheLastPlace() {
        TellTale x = Scenes.manyLetters(199);
        Check.due("lie", x.lie(2, 0, 9), 1);
        Check.due("letters", x.total(0), 200);
        Check.due("sent", x.total(1), 2);
        Check.due("the last letter's value", x.spoil(199, 9), 9);
    }

    static void promise09SendsIntoAFullRow() {
        TellTale x = Scenes.manyLetters(200);
        Check.due("lie", x.lie(2, 0, 9), 1);
        isLog(x, 2, new int[][] {{3, 0, 9}});
        Check.due("letters", x.total(0), 200);
        Check.due("sent, lost ones too", x.total(1), 2);
        Check.due("the last letter's value", x.spoil(199, SILENT), SILENT);
    }

    // IllegalStateException: its log has not two places left.
    static void promise09TwoPlacesLeft() {
        TellTale x = Scenes.longLog(148);
        Check.due("lie", x.lie(1, 0, 5), 149);
        Check.due("kind", x.entry(1, 149, 0), 3);
        Check.due("who", x.entry(1, 149, 1), 0);
        Check.due("value", x.entry(1, 149, 2), 5);
    }

    static void promise09LiesAloneFillALog() {
        TellTale x = new TellTale();
        for (int i = 1; i <= 149; i++) {
            Check.due("lie number " + i, x.lie(0, 1 + i % 2, i), i);
        }
        Check.ise("lie with one place left", () -> x.lie(0, 1, 0));
        Check.due("sent", x.total(1), 149);
    }

    static void promise09RefusesWithOnePlaceLeft() {
        Twins.refuse(Check.ISE, "lie(1, 0, 5)", () -> Scenes.longLog(149), x -> x.lie(1, 0, 5));
    }

    static void promise09RefusesWithNoPlaceLeft() {
        Twins.refuse(Check.ISE, "lie(1, 2, 5)", Scenes::fullLog, x -> x.lie(1, 2, 5));
    }

    static void promise09TheReceiversLogMayBeFull() {
        TellTale x = Scenes.fullLog();
        Check.due("lie(0, 1, 5)", x.lie(0, 1, 5), 2);
    }

    // IllegalArgumentException: also if it is to itself
    static void promise09RefusesItself() {
        for (int i = 0; i < 4; i++) {
            int node = i;
            Twins.refuse(Check.IAE, "lie(" + i + ", " + i + ", 5)", Scenes::busy, x -> x.lie(node, node, 5));
        }
    }

    static void promise09RefusesNoNode() {
        for (int bad : NO_NODES_OF_FOUR) {
            Twins.refuse(Check.IAE, "lie(" + bad + ", 1, 5)", Scenes::busy, x -> x.lie(bad, 1, 5));
            Twins.refuse(Check.IAE, "lie(" + bad + ", " + bad + ", 5)", Scenes::busy, x -> x.lie(bad, bad, 5));
        }
    }

    static void promise09RefusesNoReceiver() {
        for (int bad : NO_NODES_OF_FOUR) {
            Twins.refuse(Check.IAE, "lie(1, " + bad + ", 5)", Scenes::busy, x -> x.lie(1, bad, 5));
        }
    }

    // of several exceptions that fit the one named first is thrown
    static void promise09WrongNodesGoBeforeAFullLog() {
        Twins.refuse(Check.IAE, "lie(1, 1, 5)", Scenes::fullLog, x -> x.lie(1, 1, 5));
        Twins.refuse(Check.IAE, "lie(1, 3, 5)", Scenes::fullLog, x -> x.lie(1, 3, 5));
        Twins.refuse(Check.IAE, "lie(1, -1, 5)", Scenes::fullLog, x -> x.lie(1, -1, 5));
        Twins.refuse(Check.IAE, "lie(1, 1, 5)", () -> Scenes.longLog(149), x -> x.lie(1, 1, 5));
    }

    // Entry k of a node's log gets another value, and heads from there on are made anew: what it was.
    static void promise10FirstEntry() {
        TellTale x = twoLogs();
        Check.due("bend(0, 1, 7)", x.bend(0, 1, 7), 2);
        isLog(x, 0, new int[][] {{1, 0, 7}, {3, 1, 1}, {1, 0, 5}});
    }

    static void promise10EntryInTheMidst() {
        TellTale x = twoLogs();
        Check.due("bend(0, 2, -9)", x.bend(0, 2, -9), 1);
        isLog(x, 0, new int[][] {{1, 0, 2}, {3, 1, -9}, {1, 0, 5}});
        Check.due("bend(0, 2, 4)", x.bend(0, 2, 4), -9);
        isLog(x, 0, new int[][] {{1, 0, 2}, {3, 1, 4}, {1, 0, 5}});
    }

    static void promise10LastEntry() {
        TellTale x = twoLogs();
        Check.due("bend(0, 3, 6)", x.bend(0, 3, 6), 5);
        isLog(x, 0, new int[][] {{1, 0, 2}, {3, 1, 1}, {1, 0, 6}});
    }

    static void promise10TheOnlyEntry() {
        TellTale x = new TellTale();
        x.lie(2, 0, 5);
        Check.due("bend(2, 1, 6)", x.bend(2, 1, 6), 5);
        isLog(x, 2, new int[][] {{3, 0, 6}});
    }

    static void promise10ReceiptsAndAnswers() {
        TellTale x = twoLogs();
        Check.due("bend(1, 1, 3)", x.bend(1, 1, 3), 1);
        Check.due("bend(1, 2, 4)", x.bend(1, 2, 4), 32);
        isLog(x, 1, new int[][] {{2, 0, 3}, {3, 0, 4}});
    }

    static void promise10ToWhatItIs() {
        Twins.alike("bend to what it is", bentToWhatItIs(), twoLogs());
    }

    private static TellTale bentToWhatItIs() {
        TellTale x = twoLogs();
        Check.due("bend(0, 2, 1)", x.bend(0, 2, 1), 1);
        return x;
    }

    static void promise10GreatestAndLeastValue() {
        TellTale x = twoLogs();
        x.bend(0, 1, Integer.MIN_VALUE);
        Check.due("what it was", x.bend(0, 1, Integer.MAX_VALUE), Integer.MIN_VALUE);
        Check.due("what it was then", x.bend(0, 1, -1), Integer.MAX_VALUE);
        isLog(x, 0, new int[][] {{1, 0, -1}, {3, 1, 1}, {1, 0, 5}});
    }

    static void promise10LastEntryOfAFullLog() {
        TellTale x = Scenes.fullLog();
        long before = x.head(1, 149);
        Check.due("bend(1, 150, 8)", x.bend(1, 150, 8), 1);
        Check.due("head 150", x.head(1, 150), Sums.hash(before, 3, 2, 8));
        Check.due("head 149", x.head(1, 149), before);
        x.bend(1, 1, 3);
        int[][] entries = new int[150][];
        for (int i = 0; i < 150; i++) {
            entries[i] = new int[] {1, 0, i == 0 ? 3 : i == 148 ? -29 : -30};
        }
        entries[149] = new int[] {3, 2, 8};
        for (int k = 0; k <= 150; k++) {
            Check.due("head " + k, x.head(1, k), Sums.head(entries, k));
        }
    }

    // Its machine stays as it is.
    static void promise10ItsMachineStays() {
        TellTale x = twoLogs();
        x.bend(0, 1, 8);
        x.bend(1, 1, 8);
        Check.due("A of 0", x.about(0, 1), 67);
        Check.due("B of 1", x.about(1, 2), 32);
        Check.due("entries then", x.input(0, 0), 4);
        isLog(x, 0, new int[][] {{1, 0, 8}, {3, 1, 1}, {1, 0, 5}, {1, 0, 0}});
        Check.due("A then", x.about(0, 1), 67 * 31);
    }

    static void promise10LettersStay() {
        TellTale x = new TellTale();
        x.input(0, 2);
        x.bend(0, 1, 4);
        x.bend(0, 2, 9);
        Check.due("what was sent is taken", x.deliver(0), true);
        Check.due("its value", x.entry(1, 1, 2), 1);
    }

    // IllegalArgumentException: there is no such node, entry
    static void promise10RefusesEntryNought() {
        for (int k : new int[] {0, -1, Integer.MIN_VALUE}) {
            Twins.refuse(Check.IAE, "bend(3, " + k + ", 1)", Scenes::busy, x -> x.bend(3, k, 1));
        }
    }

    static void promise10RefusesBehindTheLast() {
        for (int k : new int[] {4, 5, 150, 151, Integer.MAX_VALUE}) {
            Twins.refuse(Check.IAE, "bend(3, " + k + ", 1)", Scenes::busy, x -> x.bend(3, k, 1));
        }
        Twins.refuse(Check.IAE, "bend(1, 151, 1)", Scenes::fullLog, x -> x.bend(1, 151, 1));
        Twins.refuse(Check.IAE, "bend(1, 150, 1)", () -> Scenes.longLog(149), x -> x.bend(1, 150, 1));
    }

    static void promise10RefusesAnEmptyLog() {
        Twins.refuse(Check.IAE, "bend(0, 1, 1)", Scenes::fresh, x -> x.bend(0, 1, 1));
        Twins.refuse(Check.IAE, "bend(0, 0, 1)", Scenes::fresh, x -> x.bend(0, 0, 1));
    }

    static void promise10RefusesWhatWasCut() {
        Twins.refuse(Check.IAE, "bend(0, 3, 1)", LogTest::cutLog, x -> x.bend(0, 3, 1));
    }

    private static TellTale cutLog() {
        TellTale x = twoLogs();
        x.cut(0, 2);
        return x;
    }

    static void promise10RefusesNoNode() {
        for (int bad : NO_NODES_OF_FOUR) {
            Twins.refuse(Check.IAE, "bend(" + bad + ", 1, 1)", Scenes::busy, x -> x.bend(bad, 1, 1));
        }
    }

    // A node's log ends behind entry k ...: how many entries are gone. k is not 0 .. how many it has
    static void promise11BehindTheLast() {
        Twins.alike("cut behind the last", cutBehindTheLast(), twoLogs());
    }

    private static TellTale cutBehindTheLast() {
        TellTale x = twoLogs();
        Check.due("cut(0, 3)", x.cut(0, 3), 0);
        return x;
    }

    static void promise11BehindTheLastButOne() {
        TellTale x = twoLogs();
        Check.due("cut(0, 2)", x.cut(0, 2), 1);
        isLog(x, 0, new int[][] {{1, 0, 2}, {3, 1, 1}});
        Check.iae("entry that is gone", () -> x.entry(0, 3, 0));
        Check.iae("head that is gone", () -> x.head(0, 3));
    }

    static void promise11BehindTheFirst() {
        TellTale x = twoLogs();
        Check.due("cut(0, 1)", x.cut(0, 1), 2);
        isLog(x, 0, new int[][] {{1, 0, 2}});
        Check.due("another node's log", x.about(1, 0), 2);
    }

    static void promise11BehindNought() {
        TellTale x = twoLogs();
        Check.due("cut(0, 0)", x.cut(0, 0), 3);
        isLog(x, 0, new int[][] {});
    }

    static void promise11AnEmptyLog() {
        TellTale x = new TellTale();
        Check.due("cut(1, 0)", x.cut(1, 0), 0);
        isLog(x, 1, new int[][] {});
    }

    static void promise11AFullLog() {
        TellTale x = Scenes.fullLog();
        Check.due("cut(1, 150)", x.cut(1, 150), 0);
        Check.due("cut(1, 0)", x.cut(1, 0), 150);
        Check.due("entries", x.about(1, 0), 0);
    }

    // (its machine stays as it is)
    static void promise11ItsMachineStays() {
        TellTale x = twoLogs();
        x.cut(0, 0);
        x.cut(1, 0);
        Check.due("A of 0", x.about(0, 1), 67);
        Check.due("B of 1", x.about(1, 2), 32);
        x.input(0, 0);
        Check.due("A goes on", x.about(0, 1), 67 * 31);
    }

    static void promise11WhatComesHangsOnWhatIsLeft() {
        TellTale x = twoLogs();
        x.cut(0, 1);
        x.input(0, 0);
        isLog(x, 0, new int[][] {{1, 0, 2}, {1, 0, 0}});
        x.cut(0, 0);
        x.lie(0, 2, 1);
        isLog(x, 0, new int[][] {{3, 2, 1}});
    }

    static void promise11LettersAndWhatIsKeptStay() {
        TellTale x = new TellTale();
        x.lie(0, 1, SILENT);
        x.deliver(0);
        x.lie(0, 1, SILENT);
        x.cut(0, 0);
        x.cut(1, 0);
        Check.due("letters", x.total(0), 1);
        Check.due("kept by 1", x.about(1, 3), 1);
        Check.due("taken by 1", x.about(1, 4), 1);
        Check.due("what was sent is taken", x.deliver(0), true);
    }

    static void promise11RefusesBelowNought() {
        for (int k : new int[] {-1, -2, Integer.MIN_VALUE}) {
            Twins.refuse(Check.IAE, "cut(3, " + k + ")", Scenes::busy, x -> x.cut(3, k));
        }
        Twins.refuse(Check.IAE, "cut(0, -1) of an empty log", Scenes::fresh, x -> x.cut(0, -1));
    }

    static void promise11RefusesMoreThanItHas() {
        for (int k : new int[] {4, 5, 150, Integer.MAX_VALUE}) {
            Twins.refuse(Check.IAE, "cut(3, " + k + ")", Scenes::busy, x -> x.cut(3, k));
        }
        Twins.refuse(Check.IAE, "cut(0, 1) of an empty log", Scenes::fresh, x -> x.cut(0, 1));
        Twins.refuse(Check.IAE, "cut(0, 3) of what was cut", LogTest::cutLog, x -> x.cut(0, 3));
        Twins.refuse(Check.IAE, "cut(1, 151) of a full log", Scenes::fullLog, x -> x.cut(1, 151));
    }

    static void promise11RefusesNoNode() {
        for (int bad : NO_NODES_OF_FOUR) {
            Twins.refuse(Check.IAE, "cut(" + bad + ", 0)", Scenes::busy, x -> x.cut(bad, 0));
        }
    }

    // Whether a node HIDES from now on: whether it did.
    static void promise12HidesOrNot() {
        TellTale x = new TellTale();
        Check.due("hide(1, false) at first", x.hide(1, false), false);
        Check.due("hide(1, true)", x.hide(1, true), false);
        Check.due("hide(1, true) again", x.hide(1, true), true);
        Check.due("hide(1, false)", x.hide(1, false), true);
        Check.due("hide(1, false) again", x.hide(1, false), false);
    }

    static void promise12EachForItself() {
        TellTale x = Scenes.opened(6);
        x.hide(5, true);
        for (int node = 0; node < 5; node++) {
            Check.due("hide(" + node + ", false)", x.hide(node, false), false);
        }
        Check.due("hide(5, true)", x.hide(5, true), true);
    }

    static void promise12SeenByAudits() {
        TellTale x = new TellTale();
        x.hide(1, true);
        Check.due("audit of one that hides", x.audit(2, 1), 1);
        Check.due("audit of another", x.audit(1, 0), 0);
        x.hide(1, false);
        Check.due("audit of one that hides no more", x.audit(2, 1), 0);
    }

    static void promise12RefusesNoNode() {
        for (int bad : NO_NODES_OF_FOUR) {
            Twins.refuse(Check.IAE, "hide(" + bad + ", true)", Scenes::busy, x -> x.hide(bad, true));
            Twins.refuse(Check.IAE, "hide(" + bad + ", false)", Scenes::busy, x -> x.hide(bad, false));
        }
    }

    // Entry k of a node's log: kind (what = 0), who (1), value (2).
    static void promise19FirstAndLastEntry() {
        TellTale x = twoLogs();
        Check.due("entry(0, 1, 0)", x.entry(0, 1, 0), 1);
        Check.due("entry(0, 1, 2)", x.entry(0, 1, 2), 2);
        Check.due("entry(0, 3, 0)", x.entry(0, 3, 0), 1);
        Check.due("entry(0, 3, 2)", x.entry(0, 3, 2), 5);
        TellTale full = Scenes.fullLog();
        Check.due("entry(1, 150, 0)", full.entry(1, 150, 0), 3);
        Check.due("entry(1, 150, 1)", full.entry(1, 150, 1), 2);
        Check.due("entry(1, 150, 2)", full.entry(1, 150, 2), 1);
    }

    // a KIND (1 INPUT, 2 RECEIPT, 3 SENDING), WHO (0; the node that it came from, or goes to) and a VALUE
    static void promise19AllKinds() {
        TellTale x = Scenes.opened(4);
        x.lie(3, 2, 7);
        x.deliver(0);
        x.input(2, -1);
        isLog(x, 2, new int[][] {{2, 3, 7}, {3, 3, 10 << 5}, {1, 0, -1}});
    }

    static void promise19RefusesEntryNought() {
        for (int k : new int[] {0, -1, Integer.MIN_VALUE}) {
            Twins.refuse(Check.IAE, "entry(3, " + k + ", 0)", Scenes::busy, x -> x.entry(3, k, 0));
        }
        Twins.refuse(Check.IAE, "entry(0, 0, 0) of an empty log", Scenes::fresh, x -> x.entry(0, 0, 0));
    }

    static void promise19RefusesBehindTheLast() {
        for (int k : new int[] {4, 150, 151, Integer.MAX_VALUE}) {
            Twins.refuse(Check.IAE, "entry(3, " + k + ", 2)", Scenes::busy, x -> x.entry(3, k, 2));
        }
        Twins.refuse(Check.IAE, "entry(0, 1, 0) of an empty log", Scenes::fresh, x -> x.entry(0, 1, 0));
        Twins.refuse(Check.IAE, "entry(0, 3, 0) of what was cut", LogTest::cutLog, x -> x.entry(0, 3, 0));
        Twins.refuse(Check.IAE, "entry(1, 151, 0) of a full log", Scenes::fullLog, x -> x.entry(1, 151, 0));
    }

    static void promise19RefusesOtherWhats() {
        for (int what : new int[] {-1, 3, 4, Integer.MIN_VALUE, Integer.MAX_VALUE}) {
            Twins.refuse(Check.IAE, "entry(3, 1, " + what + ")", Scenes::busy, x -> x.entry(3, 1, what));
        }
    }

    static void promise19RefusesNoNode() {
        for (int bad : NO_NODES_OF_FOUR) {
            Twins.refuse(Check.IAE, "entry(" + bad + ", 1, 0)", Scenes::busy, x -> x.entry(bad, 1, 0));
        }
    }

    // number 0 is 0
    static void promise20HeadNought() {
        TellTale x = twoLogs();
        Check.due("head(0, 0)", x.head(0, 0), 0);
        Check.due("head(2, 0) of an empty log", x.head(2, 0), 0);
        x.cut(0, 0);
        Check.due("head(0, 0) of a cut log", x.head(0, 0), 0);
    }

    // number k is HASH(head k - 1, kind, who, value) of entry k; HASH: 7 mixed with the first, that mixed with the next
    static void promise20HeadOne() {
        TellTale x = new TellTale();
        x.input(0, 2);
        Check.due("head(0, 1)", x.head(0, 1), Sums.mix(Sums.mix(Sums.mix(Sums.mix(7, 0), 1), 0), 2));
        Check.due("head(0, 1), as a number", x.head(0, 1), -5262404329234654422L);
        Check.due("head(0, 2)", x.head(0, 2), Sums.hash(x.head(0, 1), 3, 1, 1));
    }

    // (numbers of 32 bits with their sign)
    static void promise20ValuesWithTheirSign() {
        TellTale x = new TellTale();
        x.lie(0, 1, -1);
        Check.due("head with value -1", x.head(0, 1), Sums.hash(0, 3, 1, -1L));
        Check.due("it is not that of 32 ones", x.head(0, 1) != Sums.hash(0, 3, 1, 0xffffffffL), true);
        x.bend(0, 1, Integer.MIN_VALUE);
        Check.due("head with the least value", x.head(0, 1), Sums.hash(0, 3, 1, -2147483648L));
    }

    static void promise20LastHeadOfAFullLog() {
        TellTale x = Scenes.fullLog();
        Check.due("head(1, 150)", x.head(1, 150), Sums.hash(x.head(1, 149), 3, 2, 1));
    }

    static void promise20RefusesBelowNought() {
        for (int k : new int[] {-1, -2, Integer.MIN_VALUE}) {
            Twins.refuse(Check.IAE, "head(3, " + k + ")", Scenes::busy, x -> x.head(3, k));
        }
    }

    static void promise20RefusesBehindTheLast() {
        for (int k : new int[] {4, 150, 151, Integer.MAX_VALUE}) {
            Twins.refuse(Check.IAE, "head(3, " + k + ")", Scenes::busy, x -> x.head(3, k));
        }
        Twins.refuse(Check.IAE, "head(0, 1) of an empty log", Scenes::fresh, x -> x.head(0, 1));
        Twins.refuse(Check.IAE, "head(0, 3) of what was cut", LogTest::cutLog, x -> x.head(0, 3));
        Twins.refuse(Check.IAE, "head(1, 151) of a full log", Scenes::fullLog, x -> x.head(1, 151));
    }

    static void promise20RefusesNoNode() {
        for (int bad : NO_NODES_OF_FOUR) {
            Twins.refuse(Check.IAE, "head(" + bad + ", 0)", Scenes::busy, x -> x.head(bad, 0));
        }
    }
}
