/** Promise 4: deliver(). Behind each // the sentence of the document that the test holds to. */
public final class DeliverTest {
    private static final int SILENT = Scenes.SILENT;

    public static void main(String[] args) {
        Check.all(DeliverTest.class);
    }

    // Whether node took nothing and kept nothing.
    private static void isUntouched(TellTale x, int node) {
        for (int what = 0; what <= 4; what++) {
            Check.due("about(" + node + ", " + what + ")", x.about(node, what), 0);
        }
    }

    // then the receipt is entered, and the receiver KEEPS what was signed: node, number, head
    static void promise04MessageIsTaken() {
        TellTale x = Scenes.opened(4);
        x.lie(0, 3, SILENT + 1);
        Check.due("deliver", x.deliver(0), true);
        Check.due("entries", x.about(3, 0), 1);
        Check.due("kind", x.entry(3, 1, 0), 2);
        Check.due("who", x.entry(3, 1, 1), 0);
        Check.due("value", x.entry(3, 1, 2), SILENT + 1);
        Check.due("A", x.about(3, 1), 0);
        Check.due("B", x.about(3, 2), Sums.receipt(0, SILENT + 1, 0));
        Check.due("kept", x.about(3, 3), 1);
        Check.due("taken", x.about(3, 4), 1);
        isUntouched(x, 1);
        isUntouched(x, 2);
        Check.due("kept by its sender", x.about(0, 3), 0);
    }

    // A letter is handed over, and lies there no more
    static void promise04LiesThereNoMore() {
        TellTale x = Scenes.opened(4);
        x.lie(0, 1, SILENT);
        x.copy(0);
        x.forward(1);
        Check.due("taken", x.deliver(0), true);
        Check.due("letters behind one taken", x.total(0), 1);
        Check.due("not taken", x.deliver(0), false);
        Check.due("letters behind one not taken", x.total(0), 0);
        x.forward(1);
        x.copy(0);
        Check.due("a note kept", x.deliver(0), true);
        Check.due("letters behind a note kept", x.total(0), 1);
        Check.due("a note not kept", x.deliver(0), false);
        Check.due("letters behind a note not kept", x.total(0), 0);
        Check.iae("deliver(0) of none", () -> x.deliver(0));
    }

    static void promise04FirstMidstAndLastOfTheRow() {
        for (int at = 0; at < 3; at++) {
            TellTale x = new TellTale();
            for (int i = 0; i < 3; i++) {
                x.lie(0, 1, SILENT + 8 * i);
            }
            Check.due("deliver(" + at + ")", x.deliver(at), true);
            Check.due("value taken", x.entry(1, 1, 2), SILENT + 8 * at);
            Check.due("the first of the others", x.spoil(0, 0), SILENT + (at == 0 ? 8 : 0));
            Check.due("the second of the others", x.spoil(1, 0), SILENT + (at == 2 ? 8 : 16));
        }
    }

    static void promise04LastOfAFullRow() {
        TellTale x = Scenes.manyLetters(200);
        Check.due("deliver(199)", x.deliver(199), true);
        Check.iae("deliver(199) again", () -> x.deliver(199));
        Check.due("letters", x.total(0), 199);
        Check.due("deliver(198)", x.deliver(198), false);
    }

    // B becomes the exclusive-or of B and v + f, this turned left by 5 of 32 bits
    static void promise04BIsTurned() {
        int[] values = {1, 7, 1 << 26, 1 << 27, 1 << 28, 1 << 30, Integer.MIN_VALUE, -1, 0x87654321};
        for (int from = 1; from <= 3; from++) {
            TellTale x = Scenes.opened(4);
            int b = 0;
            for (int value : values) {
                x.lie(from, 0, value);
                x.deliver(x.total(0) - 1);
                b = Sums.receipt(b, value, from);
                Check.due("B by " + value + " from " + from, x.about(0, 2), b);
            }
        }
    }

    static void promise04ValueAndNodeWrapAround() {
        TellTale x = Scenes.opened(4);
        x.lie(3, 0, Integer.MAX_VALUE);
        x.deliver(0);
        int sum = Integer.MIN_VALUE + 2;
        Check.due("B", x.about(0, 2), sum << 5 | sum >>> 27);
        TellTale y = new TellTale();
        y.lie(1, 0, -1);
        y.deliver(0);
        Check.due("B of nothing", y.about(0, 2), 0);
        Check.due("nothing is sent on", y.entry(0, 2, 2), 0);
    }

    // if the lowest three bits of B are 0 then, it sends B to f
    static void promise04AnswerIfThreeBitsAreNought() {
        for (int bit = 0; bit < 32; bit++) {
            TellTale x = new TellTale();
            x.lie(0, 1, 1 << bit);
            x.deliver(0);
            boolean silent = bit >= 27 && bit <= 29;
            Check.due("entries behind bit " + bit, x.about(1, 0), silent ? 1 : 2);
            Check.due("letters behind bit " + bit, x.total(0), silent ? 0 : 1);
        }
    }

    static void promise04AnswerGoesToTheSender() {
        for (int from = 0; from < 5; from++) {
            TellTale x = Scenes.opened(6);
            x.lie(from, 5, 7);
            x.lie(from, 5, SILENT);
            x.deliver(0);
            int b = (7 + from) << 5;
            Check.due("kind", x.entry(5, 2, 0), 3);
            Check.due("who", x.entry(5, 2, 1), from);
            Check.due("value", x.entry(5, 2, 2), b);
            Check.due("letters", x.total(0), 2);
            Check.due("sent", x.total(1), 3);
            Check.due("the last letter tells it", x.spoil(1, b), b);
            Check.due("it is taken", x.deliver(1), true);
            Check.due("who of the receipt", x.entry(from, 3, 1), 5);
        }
    }

    // LETTERS lie in a row of 200 at most: the one handed over makes room for the answer to it.
    static void promise04AnswerInAFullRow() {
        TellTale x = new TellTale();
        x.lie(0, 1, 7);
        for (int i = 1; i < 200; i++) {
            Check.due("copy number " + i, x.copy(0), true);
        }
        Check.due("letters", x.total(0), 200);
        Check.due("deliver(0)", x.deliver(0), true);
        Check.due("letters with the answer", x.total(0), 200);
        Check.due("sent with the answer", x.total(1), 2);
        Check.due("the answer", x.spoil(199, 7 << 5), 7 << 5);
        Check.due("it is taken", x.deliver(199), true);
        Check.due("its value", x.entry(0, 2, 2), 7 << 5);
    }

    // if its signature is that of its entry's head by what the letter tells
    static void promise04SpoiledOneIsNotTaken() {
        for (int value : new int[] {SILENT + 1, 0, -SILENT, Integer.MIN_VALUE, SILENT ^ Integer.MIN_VALUE}) {
            TellTale x = new TellTale();
            x.lie(0, 1, SILENT);
            x.spoil(0, value);
            Check.due("deliver with " + value, x.deliver(0), false);
            isUntouched(x, 1);
            Check.due("letters", x.total(0), 0);
        }
    }

    static void promise04OneMadeGoodAgainIsTaken() {
        TellTale x = new TellTale();
        x.lie(0, 1, SILENT);
        x.spoil(0, 5);
        x.copy(0);
        Check.due("the spoiled one", x.deliver(0), false);
        x.spoil(0, SILENT);
        Check.due("one made good again", x.deliver(0), true);
        Check.due("its value", x.entry(1, 1, 2), SILENT);
    }

    static void promise04WhatTheLetterTellsNotWhatTheLogHas() {
        TellTale x = new TellTale();
        x.input(0, 1);
        x.lie(0, 1, SILENT);
        x.bend(0, 1, 3);
        Check.due("one of a bent log", x.deliver(0), true);
        x.lie(0, 1, SILENT);
        x.cut(0, 0);
        Check.due("one of a log that is no more", x.deliver(0), true);
        Check.due("taken", x.about(1, 4), 2);
    }

    static void promise04WhatIsKeptIsWhatTheLetterTells() {
        TellTale x = new TellTale();
        x.input(0, 1);
        x.lie(0, 1, SILENT);
        x.bend(0, 1, 3);
        x.deliver(0);
        Check.due("audit", x.audit(1, 0), 2);
        int[][] was = {{1, 0, 1}, {3, 1, SILENT}};
        int[][] shown = {{1, 0, 3}, {3, 1, SILENT}};
        int[] bytes = Sums.fork(0, shown, 2, Sums.head(was, 2));
        for (int i = 0; i < bytes.length; i++) {
            Check.due("byte " + i, x.byteOf(0, i), bytes[i]);
        }
    }

    // no message of that node and number was taken
    static void promise04CopyIsNotTakenAgain() {
        for (int nodes = 3; nodes <= 6; nodes++) {
            for (int from = 0; from < nodes; from++) {
                TellTale x = Scenes.opened(nodes);
                int to = (from + nodes - 1) % nodes;
                x.lie(from, to, SILENT);
                x.lie(from, to, SILENT);
                x.copy(0);
                x.copy(1);
                for (int i = 0; i < 4; i++) {
                    Check.due("message " + i + " of " + from, x.deliver(0), i < 2);
                }
                Check.due("log", x.about(to, 0), 2);
                Check.due("taken", x.about(to, 4), 2);
                Check.due("kept", x.about(to, 3), 2);
            }
        }
    }

    static void promise04AnotherOfThatNumberIsNotTaken() {
        TellTale x = new TellTale();
        x.lie(0, 1, SILENT);
        x.deliver(0);
        x.cut(0, 0);
        x.lie(0, 1, SILENT + 8);
        Check.due("another one of that node and number", x.deliver(0), false);
        Check.due("log", x.about(1, 0), 1);
        Check.due("kept", x.about(1, 3), 1);
        x.lie(0, 1, SILENT + 8);
        Check.due("the next number", x.deliver(0), true);
    }

    static void promise04SameNumberOfAnotherNode() {
        TellTale x = Scenes.opened(6);
        for (int node = 0; node < 5; node++) {
            x.lie(node, 5, SILENT);
            Check.due("number 1 of " + node, x.deliver(0), true);
        }
        Check.due("taken", x.about(5, 4), 5);
    }

    static void promise04TakenThoughItsLogWasCut() {
        TellTale x = new TellTale();
        x.lie(0, 1, SILENT);
        x.copy(0);
        x.deliver(0);
        x.cut(1, 0);
        Check.due("that number, when the receipt is cut", x.deliver(0), false);
    }

    static void promise04NotTakenMayComeOnceMore() {
        TellTale x = new TellTale();
        x.lie(0, 1, SILENT);
        x.copy(0);
        x.spoil(0, 5);
        Check.due("a spoiled one", x.deliver(0), false);
        Check.due("the good one of that number", x.deliver(0), true);
    }

    // What another receiver took is nothing to this one.
    static void promise04OnceByEachReceiver() {
        TellTale x = new TellTale();
        x.lie(0, 1, SILENT);
        Check.due("number 1 to 1", x.deliver(0), true);
        x.cut(0, 0);
        x.lie(0, 2, SILENT);
        Check.due("number 1 to 2", x.deliver(0), true);
        Check.due("audit by 1", x.audit(1, 0), 2);
        Check.due("evidence", x.byteOf(0, 0), 1);
    }

    static void promise04LastNumbersOfALog() {
        TellTale x = Scenes.opened(6);
        for (int i = 0; i < 148; i++) {
            x.lie(5, 0, SILENT);
        }
        Check.due("the last entries", x.input(5, 2), 150);
        Check.due("the last one goes to 0", x.entry(5, 150, 1), 0);
        x.copy(148);
        Check.due("number 150", x.deliver(148), true);
        Check.due("number 150 again", x.deliver(148), false);
        Check.due("number 148", x.deliver(147), true);
        Check.due("number 1", x.deliver(0), true);
        Check.due("number 2", x.deliver(0), true);
        Check.due("taken", x.about(0, 4), 4);
    }

    static void promise04NumbersOfNeighboursAreApart() {
        TellTale x = Scenes.opened(6);
        for (int i = 0; i < 148; i++) {
            x.lie(2, 0, SILENT);
        }
        x.input(2, 3 << 8);
        Check.due("the last number goes to 0", x.entry(2, 150, 1), 0);
        Check.due("number 150 of 2", x.deliver(148), true);
        Check.due("number 148 of 2", x.deliver(147), true);
        for (int from : new int[] {1, 3}) {
            for (int number = 1; number <= 3; number++) {
                x.lie(from, 0, SILENT);
                Check.due("number " + number + " of " + from, x.deliver(x.total(0) - 1), true);
            }
        }
    }

    // the receiver's log has two places left
    static void promise04TwoPlacesLeftForTheReceipt() {
        TellTale x = Scenes.longLog(148);
        Check.due("deliver", x.deliver(0), true);
        Check.due("entries", x.about(1, 0), 149);
        Check.due("kind", x.entry(1, 149, 0), 2);
    }

    static void promise04TwoPlacesLeftForTheAnswerToo() {
        TellTale x = Scenes.longLog(148);
        x.lie(2, 1, 7);
        Check.due("deliver", x.deliver(1), true);
        Check.due("entries", x.about(1, 0), 150);
        Check.due("kind", x.entry(1, 150, 0), 3);
        Check.due("letters", x.total(0), 2);
        Check.due("the other one then", x.deliver(0), false);
    }

    static void promise04OnePlaceLeft() {
        TellTale x = Scenes.longLog(149);
        x.copy(0);
        Check.due("deliver", x.deliver(0), false);
        Check.due("entries", x.about(1, 0), 149);
        Check.due("B", x.about(1, 2), 0);
        Check.due("kept", x.about(1, 3), 0);
        Check.due("taken", x.about(1, 4), 0);
        Check.due("letters", x.total(0), 1);
        x.cut(1, 148);
        Check.due("once more, with two places left", x.deliver(0), true);
    }

    static void promise04NoPlaceLeft() {
        TellTale x = Scenes.fullLog();
        Check.due("deliver", x.deliver(0), false);
        Check.due("entries", x.about(1, 0), 150);
        Check.due("kept", x.about(1, 3), 0);
        Check.due("taken", x.about(1, 4), 0);
    }

    static void promise04TheSendersLogMayBeFull() {
        TellTale x = Scenes.fullLog();
        Check.due("message of the full log", x.deliver(1), true);
        Check.due("who", x.entry(2, 1, 1), 1);
    }

    // (but what it keeps already ... is not kept more; the message is taken all the same)
    static void promise04KeptByAnAuditAlready() {
        TellTale x = new TellTale();
        x.input(0, 2);
        Check.due("audit", x.audit(1, 0), 0);
        Check.due("kept", x.about(1, 3), 1);
        Check.due("the message of that head", x.deliver(0), true);
        Check.due("kept then", x.about(1, 3), 1);
        Check.due("taken", x.about(1, 4), 1);
        Check.due("entries, with the answer", x.about(1, 0), 2);
    }

    static void promise04KeptByANoteAlready() {
        TellTale x = new TellTale();
        x.input(0, 2);
        Check.due("audit", x.audit(2, 0), 0);
        Check.due("notes", x.forward(2), 1);
        Check.due("the note", x.deliver(1), true);
        Check.due("kept", x.about(1, 3), 1);
        Check.due("the message of that head", x.deliver(0), true);
        Check.due("kept then", x.about(1, 3), 1);
        Check.due("taken", x.about(1, 4), 1);
    }

    // A NOTE carries what was signed ... to a witness, which keeps it
    static void promise04NoteIsKept() {
        TellTale x = Scenes.opened(5);
        x.lie(0, 4, SILENT);
        x.deliver(0);
        x.forward(4);
        Check.due("to the first witness", x.deliver(0), true);
        Check.due("to the second witness", x.deliver(0), true);
        for (int witness = 1; witness <= 2; witness++) {
            int[] due = {0, 0, 0, 1, 0};
            for (int what = 0; what <= 4; what++) {
                Check.due("about(" + witness + ", " + what + ")", x.about(witness, what), due[what]);
            }
        }
        isUntouched(x, 3);
    }

    // if ... it does not keep that yet
    static void promise04NoteOfWhatIsKeptByANote() {
        TellTale x = Scenes.opened(5);
        x.lie(0, 4, SILENT);
        x.deliver(0);
        x.forward(4);
        x.copy(0);
        Check.due("to the first witness", x.deliver(0), true);
        Check.due("a copy of it", x.deliver(1), false);
        Check.due("kept", x.about(1, 3), 1);
    }

    static void promise04NoteOfWhatIsKeptByAnAudit() {
        TellTale x = new TellTale();
        x.input(0, 1);
        x.audit(1, 0);
        x.audit(2, 0);
        Check.due("notes", x.forward(1), 1);
        Check.due("the note", x.deliver(0), false);
        Check.due("kept", x.about(2, 3), 1);
    }

    static void promise04NoteOfAnotherHeadOfThatNumber() {
        TellTale x = Scenes.opened(4);
        x.lie(0, 2, SILENT);
        x.cut(0, 0);
        x.lie(0, 3, SILENT);
        x.deliver(0);
        x.deliver(0);
        x.forward(2);
        x.forward(3);
        Check.due("one head of number 1", x.deliver(0), true);
        Check.due("another head of number 1", x.deliver(0), true);
        Check.due("kept by 1", x.about(1, 3), 2);
    }

    static void promise04NoteToAFullLog() {
        TellTale x = Scenes.longLog(149);
        x.lie(0, 2, SILENT);
        x.deliver(1);
        Check.due("notes", x.forward(2), 1);
        Check.due("the note", x.deliver(1), true);
        Check.due("kept", x.about(1, 3), 1);
        Check.due("entries", x.about(1, 0), 149);
    }

    // IllegalArgumentException: there is no such ... letter
    static void promise04RefusesNoLetter() {
        for (int bad : new int[] {-1, 4, 5, 200, Integer.MIN_VALUE, Integer.MAX_VALUE}) {
            Twins.refuse(Check.IAE, "deliver(" + bad + ")", Scenes::busy, x -> x.deliver(bad));
        }
    }

    static void promise04RefusesAnEmptyRow() {
        Twins.refuse(Check.IAE, "deliver(0)", Scenes::fresh, x -> x.deliver(0));
        Twins.refuse(Check.IAE, "deliver(-1)", Scenes::fresh, x -> x.deliver(-1));
        TellTale x = Scenes.busy();
        for (int i = 0; i < 4; i++) {
            x.drop(0);
        }
        Check.iae("deliver(0) of a row with nothing left", () -> x.deliver(0));
    }

    static void promise04RefusesBehindAFullRow() {
        Twins.refuse(Check.IAE, "deliver(200)", () -> Scenes.manyLetters(200), x -> x.deliver(200));
    }
}
