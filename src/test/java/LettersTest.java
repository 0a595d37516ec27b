/** Promises 4 to 8: letters that are handed over, lost, copied, spoiled, and notes of what is kept. */
public final class LettersTest {
    // A receipt of it makes no answer: bits 27 to 29 are not all zeros.
    private static final int SILENT = 1 << 28;

    public static void main(String[] args) {
        promise04Message();
        promise04Answer();
        promise04TakenOnce();
        promise04TakenOnceByEach();
        promise04LastNumbers();
        promise04WrongSignature();
        promise04FullLog();
        promise04Note();
        promise04Wrong();
        promise04FullRow();
        promise05Drop();
        promise06Copy();
        promise07Spoil();
        promise08Forward();
        promise08WhatIsForwarded();
        promise08FullRow();
        Check.end();
    }

    private static void promise04Message() {
        Check.part("promise 4, message");
        TellTale x = new TellTale();
        x.open(4);
        x.lie(0, 2, SILENT);
        x.lie(0, 3, SILENT + 1);
        x.lie(1, 2, -3);
        Check.due("deliver(1)", x.deliver(1), true);
        Check.due("letters", x.total(0), 2);
        Check.due("log of 3", x.about(3, 0), 1);
        Check.due("kind", x.entry(3, 1, 0), 2);
        Check.due("who", x.entry(3, 1, 1), 0);
        Check.due("value", x.entry(3, 1, 2), SILENT + 1);
        Check.due("B", x.about(3, 2), Sums.receipt(0, SILENT + 1, 0));
        Check.due("A", x.about(3, 1), 0);
        Check.due("kept", x.about(3, 3), 1);
        Check.due("taken", x.about(3, 4), 1);
        Check.due("log of 2", x.about(2, 0), 0);
        Check.due("deliver(0)", x.deliver(0), true);
        Check.due("deliver(0), behind it", x.deliver(0), true);
        int b = Sums.receipt(Sums.receipt(0, SILENT, 0), -3, 1);
        Check.due("B of 2", x.about(2, 2), b);
        Check.due("who of the second", x.entry(2, 2, 1), 1);
        Check.due("kept by 2", x.about(2, 3), 2);
        Check.due("letters", x.total(0), 0);
    }

    private static void promise04Answer() {
        Check.part("promise 4, answer");
        TellTale x = new TellTale();
        x.lie(2, 1, 7);
        x.lie(0, 2, SILENT);
        Check.due("deliver", x.deliver(0), true);
        Check.due("log of 1", x.about(1, 0), 2);
        Check.due("kind", x.entry(1, 2, 0), 3);
        Check.due("who", x.entry(1, 2, 1), 2);
        Check.due("value", x.entry(1, 2, 2), 9 << 5);
        Check.due("letters", x.total(0), 2);
        Check.due("sent", x.total(1), 3);
        Check.due("the answer is the last letter", x.spoil(1, 9 << 5), 9 << 5);
        Check.due("deliver the answer", x.deliver(1), true);
        Check.due("log of 2, which answers again", x.about(2, 0), 3);
        TellTale y = new TellTale();
        for (int bit = 0; bit < 32; bit++) {
            y.open(3);
            y.lie(0, 1, 1 << bit);
            y.deliver(0);
            Check.due("log behind bit " + bit, y.about(1, 0), bit >= 27 && bit <= 29 ? 1 : 2);
        }
    }

    private static void promise04TakenOnce() {
        Check.part("promise 4, taken once");
        TellTale x = new TellTale();
        x.lie(0, 1, SILENT);
        x.copy(0);
        Check.due("the first", x.deliver(0), true);
        Check.due("its copy", x.deliver(0), false);
        Check.due("letters", x.total(0), 0);
        Check.due("log", x.about(1, 0), 1);
        Check.due("taken", x.about(1, 4), 1);
        x.cut(0, 0);
        x.lie(0, 1, SILENT + 8);
        Check.due("another one of that node and number", x.deliver(0), false);
        Check.due("kept", x.about(1, 3), 1);
        x.lie(0, 1, SILENT + 8);
        Check.due("the next number", x.deliver(0), true);
        x.lie(2, 1, SILENT);
        Check.due("the same number of another node", x.deliver(0), true);
        x.cut(1, 0);
        x.cut(0, 0);
        x.lie(0, 1, SILENT);
        Check.due("that number, with a cut log", x.deliver(0), false);
        Check.due("taken in all", x.about(1, 4), 3);
        Check.due("kept in all", x.about(1, 3), 3);
    }

    // What another receiver took is nothing to this one.
    private static void promise04TakenOnceByEach() {
        Check.part("promise 4, taken once by each receiver");
        TellTale x = new TellTale();
        x.lie(0, 1, SILENT);
        Check.due("number 1 to 1", x.deliver(0), true);
        x.cut(0, 0);
        x.lie(0, 2, SILENT);
        Check.due("number 1 to 2", x.deliver(0), true);
        Check.due("audit by 1", x.audit(1, 0), 2);
        Check.due("evidence", x.byteOf(0, 0), 1);
    }

    private static void promise04LastNumbers() {
        Check.part("promise 4, the last numbers of the last node");
        TellTale x = new TellTale();
        x.open(6);
        for (int i = 0; i < 148; i++) {
            x.lie(5, 0, SILENT);
        }
        Check.due("the last entries", x.input(5, 2), 150);
        Check.due("number 150", x.deliver(148), true);
        Check.due("number 148", x.deliver(147), true);
        Check.due("number 1", x.deliver(0), true);
        Check.due("number 2", x.deliver(0), true);
        Check.due("taken", x.about(0, 4), 4);
    }

    private static void promise04WrongSignature() {
        Check.part("promise 4, signature");
        TellTale x = new TellTale();
        x.lie(0, 1, SILENT);
        x.spoil(0, SILENT + 1);
        x.copy(0);
        Check.due("a spoiled one", x.deliver(0), false);
        Check.due("letters", x.total(0), 1);
        Check.due("log", x.about(1, 0), 0);
        Check.due("B", x.about(1, 2), 0);
        Check.due("kept", x.about(1, 3), 0);
        Check.due("taken", x.about(1, 4), 0);
        x.spoil(0, SILENT);
        Check.due("one made good again", x.deliver(0), true);
        x.input(0, 1);
        x.lie(0, 2, 5);
        x.bend(0, 1, 3);
        x.cut(0, 0);
        Check.due("one of a log that is no more", x.deliver(0), true);
        int[][] was = {{3, 1, SILENT}, {1, 0, 1}, {3, 2, 5}};
        x.lie(0, 1, 1);
        x.bend(0, 1, SILENT);
        x.input(0, 1 - 31);
        x.bend(0, 2, 1);
        x.lie(0, 1, 1);
        x.cut(0, 2);
        x.lie(0, 2, 5);
        Check.due("head as it was", x.head(0, 3), Sums.head(was, 3));
        Check.due("audit by 2 finds no fork, but a run", x.audit(2, 0), 2);
        Check.due("kind of evidence", x.byteOf(0, 0), 2);
    }

    private static void promise04FullLog() {
        Check.part("promise 4, full log");
        TellTale x = new TellTale();
        x.lie(0, 1, SILENT);
        x.copy(0);
        x.copy(0);
        for (int i = 0; i < 149; i++) {
            x.lie(1, 2, i);
        }
        Check.due("with one place left", x.deliver(0), false);
        Check.due("kept", x.about(1, 3), 0);
        Check.due("taken", x.about(1, 4), 0);
        Check.due("log", x.about(1, 0), 149);
        x.cut(1, 148);
        Check.due("with two places left", x.deliver(0), true);
        Check.due("log then", x.about(1, 0), 149);
    }

    private static void promise04Note() {
        Check.part("promise 4, note");
        TellTale x = new TellTale();
        x.open(5);
        x.lie(0, 4, SILENT);
        x.deliver(0);
        Check.due("notes", x.forward(4), 2);
        x.copy(0);
        Check.due("to the first witness", x.deliver(0), true);
        Check.due("kept by 1", x.about(1, 3), 1);
        Check.due("log of 1", x.about(1, 0), 0);
        Check.due("taken by 1", x.about(1, 4), 0);
        Check.due("letters", x.total(0), 2);
        Check.due("to the second", x.deliver(0), true);
        Check.due("kept by 2", x.about(2, 3), 1);
        Check.due("a copy to the first", x.deliver(0), false);
        Check.due("kept by 1 still", x.about(1, 3), 1);
        Check.due("letters", x.total(0), 0);
        Check.due("what came by a note is not forwarded", x.forward(1), 0);
        Check.part("promise 4, message behind a note");
        TellTale y = new TellTale();
        y.lie(0, 1, SILENT);
        y.copy(0);
        y.deliver(0);
        y.forward(1);
        Check.due("the copy", y.deliver(0), false);
        Check.due("the note", y.deliver(0), true);
        Check.due("by 2", y.about(2, 3), 1);
    }

    private static void promise04Wrong() {
        Check.part("promise 4, wrong");
        TellTale x = new TellTale();
        Check.iae("deliver(0) of none", () -> x.deliver(0));
        x.lie(0, 1, 5);
        x.lie(0, 1, 5);
        for (int bad : new int[] {-1, 2, 200, Integer.MIN_VALUE, Integer.MAX_VALUE}) {
            Check.iae("deliver(" + bad + ")", () -> x.deliver(bad));
            Check.iae("drop(" + bad + ")", () -> x.drop(bad));
            Check.iae("copy(" + bad + ")", () -> x.copy(bad));
            Check.iae("spoil(" + bad + ", 1)", () -> x.spoil(bad, 1));
        }
        Check.due("letters", x.total(0), 2);
        Check.due("log of 1", x.about(1, 0), 0);
    }

    // The letter that is handed over makes room for the answer to it.
    private static void promise04FullRow() {
        Check.part("promise 4, full row");
        TellTale x = new TellTale();
        x.lie(0, 1, 7);
        for (int i = 1; i < 200; i++) {
            Check.due("copy number " + i, x.copy(0), true);
        }
        x.lie(2, 0, 3);
        Check.due("letters", x.total(0), 200);
        Check.due("sent, with one lost", x.total(1), 2);
        Check.due("its sender's log", x.about(2, 0), 1);
        Check.due("deliver(0)", x.deliver(0), true);
        Check.due("letters with the answer", x.total(0), 200);
        Check.due("sent with the answer", x.total(1), 3);
        Check.due("the answer", x.spoil(199, 1), 7 << 5);
    }

    private static void promise05Drop() {
        Check.part("promise 5");
        TellTale x = new TellTale();
        x.open(4);
        x.lie(0, 1, SILENT);
        x.deliver(0);
        x.lie(0, 2, 11);
        x.forward(1);
        x.lie(0, 2, 12);
        x.lie(0, 2, 13);
        Check.due("letters", x.total(0), 4);
        Check.due("a message", x.drop(2), 1);
        Check.due("a note", x.drop(1), 2);
        Check.due("letters left", x.total(0), 2);
        Check.due("the first stays", x.spoil(0, 11), 11);
        Check.due("the last moves up", x.spoil(1, 13), 13);
        Check.iae("drop(2)", () -> x.drop(2));
        Check.due("kept by 2", x.about(2, 3), 0);
        Check.due("sent", x.total(1), 5);
        Check.due("not forwarded again", x.forward(1), 0);
        Check.due("drop(0)", x.drop(0), 1);
        Check.due("drop(0)", x.drop(0), 1);
        Check.iae("drop(0) of none", () -> x.drop(0));
        x.lie(0, 2, 14);
        Check.due("a new one", x.deliver(0), true);
        Check.due("its value", x.entry(2, 1, 2), 14);
    }

    private static void promise06Copy() {
        Check.part("promise 6");
        TellTale x = new TellTale();
        x.open(4);
        x.lie(0, 1, 1);
        x.lie(0, 2, 2);
        x.lie(0, 3, 3);
        Check.due("copy(1)", x.copy(1), true);
        Check.due("letters", x.total(0), 4);
        Check.due("sent", x.total(1), 3);
        Check.due("behind all others", x.spoil(3, 22), 2);
        Check.due("the first one stays as it is", x.spoil(1, 2), 2);
        Check.due("the last of them", x.spoil(2, 3), 3);
        Check.due("a spoiled copy", x.deliver(3), false);
        Check.due("copy(0)", x.copy(0), true);
        Check.due("the copy is as good", x.deliver(3), true);
        Check.due("its value", x.entry(1, 1, 2), 1);
        Check.due("the first then", x.deliver(0), false);
        TellTale y = new TellTale();
        y.open(5);
        y.lie(0, 4, SILENT);
        y.deliver(0);
        y.forward(4);
        for (int i = 2; i < 200; i++) {
            Check.due("copy of a note", y.copy(i % 2), true);
        }
        Check.due("copy into a full row", y.copy(0), false);
        Check.due("letters", y.total(0), 200);
        Check.due("sent", y.total(1), 3);
        Check.iae("copy(200)", () -> y.copy(200));
        Check.due("the last copy", y.deliver(199), true);
        Check.due("for the second witness", y.about(2, 3), 1);
        Check.due("copy into the room", y.copy(0), true);
        Check.due("drop of a note's copy", y.drop(199), 2);
    }

    private static void promise07Spoil() {
        Check.part("promise 7");
        TellTale x = new TellTale();
        x.lie(0, 1, SILENT);
        Check.due("spoil(0, -4)", x.spoil(0, -4), SILENT);
        Check.due("spoil(0, 9)", x.spoil(0, 9), -4);
        Check.due("the log stays", x.entry(0, 1, 2), SILENT);
        Check.due("spoil(0, good)", x.spoil(0, SILENT), 9);
        Check.due("deliver", x.deliver(0), true);
        Check.due("notes", x.forward(1), 1);
        Check.iae("spoil of a note", () -> x.spoil(0, 5));
        Check.due("the note", x.deliver(0), true);
        Check.iae("spoil of none", () -> x.spoil(0, 5));
    }

    private static void promise08Forward() {
        Check.part("promise 8");
        TellTale x = new TellTale();
        x.open(6);
        x.lie(0, 5, SILENT);
        x.lie(3, 5, SILENT);
        x.lie(4, 5, SILENT);
        x.deliver(2);
        x.deliver(0);
        x.deliver(0);
        Check.due("notes", x.forward(5), 4);
        Check.due("again", x.forward(5), 0);
        Check.due("of nothing kept", x.forward(1), 0);
        Check.due("letters", x.total(0), 4);
        int[] to = {0, 1, 2, 4};
        for (int i = 0; i < 4; i++) {
            Check.due("note " + i, x.deliver(0), true);
            Check.due("goes to " + to[i], x.about(to[i], 3), 1);
        }
        Check.due("kept by itself", x.about(5, 3), 3);
        x.lie(1, 5, SILENT);
        x.deliver(0);
        Check.due("only what is new", x.forward(5), 2);
        x.deliver(0);
        Check.due("to the first witness of 1", x.about(2, 3), 2);
        x.deliver(0);
        Check.due("to the second", x.about(3, 3), 1);
        for (int bad : new int[] {-1, 6, Integer.MAX_VALUE, Integer.MIN_VALUE}) {
            Check.iae("forward(" + bad + ")", () -> x.forward(bad));
        }
        Check.due("what 1 and 4 got by notes", x.forward(0) + x.forward(1) + x.forward(2) + x.forward(4), 0);
    }

    private static void promise08WhatIsForwarded() {
        Check.part("promise 8, what");
        TellTale x = new TellTale();
        x.input(0, 1);
        Check.due("audit(1, 0)", x.audit(1, 0), 0);
        Check.due("kept by an audit", x.forward(1), 1);
        Check.due("the note", x.deliver(0), true);
        Check.due("audit by 2", x.audit(2, 0), 0);
        Check.due("kept by a note, not by the audit", x.forward(2), 0);
        x.lie(0, 2, SILENT);
        x.lie(0, 1, SILENT);
        x.copy(1);
        x.deliver(1);
        Check.due("the message's head", x.forward(1), 1);
        Check.due("note", x.deliver(2), true);
        Check.due("message to 2", x.deliver(0), true);
        Check.due("of number 2 alone", x.forward(2), 1);
        Check.part("promise 8, a note first and the message then");
        TellTale y = new TellTale();
        y.open(4);
        y.lie(0, 2, SILENT);
        y.copy(0);
        y.deliver(0);
        y.forward(2);
        y.deliver(1);
        Check.due("kept by 1", y.about(1, 3), 1);
        Check.due("nothing to forward", y.forward(1), 0);
        Check.due("message once more", y.deliver(0), false);
    }

    private static void promise08FullRow() {
        Check.part("promise 8, full row");
        TellTale x = new TellTale();
        x.open(5);
        x.lie(0, 4, SILENT);
        x.deliver(0);
        x.lie(1, 4, SILENT);
        x.deliver(0);
        x.lie(2, 3, 1);
        for (int i = 1; i < 199; i++) {
            x.copy(0);
        }
        Check.due("sent", x.total(1), 3);
        Check.due("notes, lost ones too", x.forward(4), 4);
        Check.due("letters", x.total(0), 200);
        Check.due("sent in all", x.total(1), 7);
        Check.due("lost ones are not sent again", x.forward(4), 0);
        Check.due("the one that got in", x.deliver(199), true);
        Check.due("goes to 1", x.about(1, 3), 1);
    }
}
