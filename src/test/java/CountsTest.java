/** Promises 21 and 22: about() and total(). Behind each // the sentence of the document that the test holds to. */
public final class CountsTest {
    private static final int SILENT = Scenes.SILENT;

    public static void main(String[] args) {
        Check.all(CountsTest.class);
    }

    // Of a node: entries of its log (what = 0), A (1), B (2), how many heads it keeps (3), messages taken (4).
    static void promise21EntriesOfItsLog() {
        TellTale x = new TellTale();
        x.input(0, 2);
        Check.due("entries of 0", x.about(0, 0), 2);
        Check.due("entries of 1", x.about(1, 0), 0);
        x.deliver(0);
        Check.due("entries of 1 then", x.about(1, 0), 2);
        x.cut(0, 1);
        Check.due("entries of 0 then", x.about(0, 0), 1);
        Check.due("entries of a full log", Scenes.fullLog().about(1, 0), 150);
    }

    static void promise21Registers() {
        TellTale x = new TellTale();
        x.input(0, -2);
        x.deliver(0);
        Check.due("A of 0", x.about(0, 1), -2);
        Check.due("B of 0", x.about(0, 2), 0);
        Check.due("A of 2", x.about(2, 1), 0);
        Check.due("B of 2", x.about(2, 2), Sums.receipt(0, Integer.MAX_VALUE, 0));
    }

    static void promise21HeadsThatItKeeps() {
        TellTale x = new TellTale();
        x.lie(0, 1, SILENT);
        x.copy(0);
        x.deliver(0);
        Check.due("by a message", x.about(1, 3), 1);
        x.deliver(0);
        Check.due("a copy is nothing new", x.about(1, 3), 1);
        x.forward(1);
        x.deliver(0);
        Check.due("by a note", x.about(2, 3), 1);
        Check.due("audit of 1, with its receipt", x.audit(2, 1), 0);
        Check.due("by an audit", x.about(2, 3), 2);
        Check.due("none by who sent", x.about(0, 3), 0);
    }

    static void promise21MessagesTaken() {
        TellTale x = new TellTale();
        x.lie(0, 1, SILENT);
        x.copy(0);
        x.lie(2, 1, SILENT);
        for (int i = 0; i < 3; i++) {
            x.deliver(0);
        }
        Check.due("taken by 1, a copy not", x.about(1, 4), 2);
        x.forward(1);
        x.deliver(0);
        x.audit(1, 0);
        Check.due("taken by 1, after an audit", x.about(1, 4), 2);
        Check.due("taken by 2, a note not", x.about(2, 4), 0);
        Check.due("kept by 2", x.about(2, 3), 1);
        x.cut(1, 0);
        Check.due("taken by 1, its log cut", x.about(1, 4), 2);
    }

    static void promise21RefusesOtherWhats() {
        for (int what : new int[] {-1, 5, 6, Integer.MIN_VALUE, Integer.MAX_VALUE}) {
            Twins.refuse(Check.IAE, "about(1, " + what + ")", Scenes::busy, x -> x.about(1, what));
        }
    }

    static void promise21RefusesNoNode() {
        for (int bad : new int[] {-1, 4, 5, 6, Integer.MIN_VALUE, Integer.MAX_VALUE}) {
            for (int what = 0; what <= 4; what++) {
                int w = what;
                Twins.refuse(Check.IAE, "about(" + bad + ", " + what + ")", Scenes::busy, x -> x.about(bad, w));
            }
        }
    }

    // Letters (what = 0), sent in all, lost ones too, copies not (1), pieces of evidence (2), nodes (3).
    static void promise22Letters() {
        TellTale x = new TellTale();
        x.lie(0, 1, SILENT);
        x.lie(1, 2, SILENT);
        x.copy(0);
        Check.due("with a copy", x.total(0), 3);
        x.drop(0);
        Check.due("without what was dropped", x.total(0), 2);
        x.deliver(1);
        Check.due("without what was handed over", x.total(0), 1);
        x.forward(1);
        Check.due("with a note", x.total(0), 2);
        Check.due("in a full row", Scenes.manyLetters(200).total(0), 200);
    }

    static void promise22SentInAll() {
        TellTale x = Scenes.opened(5);
        x.input(0, 2);
        Check.due("by an input", x.total(1), 1);
        x.lie(1, 3, SILENT);
        Check.due("by a lie", x.total(1), 2);
        x.deliver(0);
        Check.due("by an answer", x.total(1), 3);
        x.deliver(0);
        x.forward(3);
        Check.due("by a note to 2, and none to itself", x.total(1), 4);
        x.drop(0);
        x.drop(0);
        Check.due("dropped ones too", x.total(1), 4);
    }

    static void promise22LostOnesToo() {
        TellTale x = Scenes.manyLetters(200);
        x.lie(1, 2, SILENT);
        x.input(2, 2);
        Check.due("sent", x.total(1), 3);
        Check.due("letters", x.total(0), 200);
        x.drop(199);
        x.deliver(0);
        x.copy(0);
        x.copy(0);
        x.forward(1);
        Check.due("with a lost note", x.total(1), 4);
        Check.due("letters then", x.total(0), 200);
    }

    static void promise22CopiesNot() {
        TellTale x = Scenes.manyLetters(200);
        Check.due("sent", x.total(1), 1);
        x.copy(0);
        Check.due("with a copy that finds no room", x.total(1), 1);
    }

    static void promise22Evidence() {
        TellTale x = Scenes.withRun(4, 1);
        Check.due("evidence", x.total(2), 1);
        x.audit(2, 0);
        Check.due("evidence of the other witness", x.total(2), 2);
        x.smudge(0, 0, 9);
        x.judge(3, 0);
        x.judge(3, 1);
        Check.due("evidence that does not hold, too", x.total(2), 2);
    }

    static void promise22Nodes() {
        TellTale x = new TellTale();
        Check.due("nodes", x.total(3), 3);
        for (int nodes = 3; nodes <= 6; nodes++) {
            x.open(nodes);
            Check.due("nodes then", x.total(3), nodes);
        }
    }

    // Nothing is promised beyond the answers and state changes described: who only looks changes nothing.
    static void promise22LooksChangeNothing() {
        TellTale x = Scenes.busy();
        for (int i = 0; i < 4; i++) {
            x.total(i);
            x.head(i, 0);
            x.head(i, x.about(i, 0));
            x.verdict(i, (i + 1) % 4);
            x.entry(3, 1 + i % 3, i % 3);
            x.byteOf(i % 2, i);
            x.holds(i % 2);
            for (int what = 0; what <= 4; what++) {
                x.about(i, what);
            }
        }
        Twins.alike("looks", x, Scenes.busy());
    }

    static void promise22RefusesOtherWhats() {
        for (int what : new int[] {-1, 4, 5, Integer.MIN_VALUE, Integer.MAX_VALUE}) {
            Twins.refuse(Check.IAE, "total(" + what + ")", Scenes::busy, x -> x.total(what));
        }
    }
}
