/** Objects in the midst of their use, the same ones each time, for tests of what is refused. */
final class Scenes {
    // A receipt of it makes no answer: bits 27 to 29 are not all zeros.
    static final int SILENT = 1 << 28;

    private Scenes() {
    }

    static TellTale fresh() {
        return new TellTale();
    }

    static TellTale opened(int nodes) {
        TellTale x = new TellTale();
        x.open(nodes);
        return x;
    }

    // Four nodes; letters 0 and 1 are messages, 2 is a note, 3 is spoiled; evidence 0 is a fork of 36 bytes, 1 a run of 32.
    static TellTale busy() {
        TellTale x = opened(4);
        x.lie(0, 1, SILENT);
        x.deliver(0);
        x.input(2, 2);
        x.copy(0);
        x.deliver(0);
        x.audit(3, 2);
        x.lie(3, 2, 5);
        x.bend(0, 1, 77);
        x.audit(1, 0);
        x.audit(0, 3);
        x.drop(0);
        x.forward(1);
        x.lie(1, 0, 6);
        x.spoil(3, 7);
        x.hide(2, true);
        x.audit(0, 2);
        return x;
    }

    // Node 1 of three has so many entries, inputs all, its A is odd, and a message to it lies there.
    static TellTale longLog(int entries) {
        TellTale x = new TellTale();
        for (int i = 0; i < entries; i++) {
            x.input(1, i == 0 ? 1 : -30);
        }
        x.lie(0, 1, SILENT);
        return x;
    }

    // Node 1 of three has 150 entries, the last two an input and what it sent.
    static TellTale fullLog() {
        TellTale x = longLog(148);
        x.input(1, -29);
        return x;
    }

    // So many letters, copies of one message of node 0 to node 1.
    static TellTale manyLetters(int letters) {
        TellTale x = new TellTale();
        x.lie(0, 1, SILENT);
        for (int i = 1; i < letters; i++) {
            x.copy(0);
        }
        return x;
    }

    // Node 1 found a run out: evidence 0 of node 0, with so many entries in it.
    static TellTale withRun(int nodes, int entries) {
        TellTale x = opened(nodes);
        for (int i = 0; i < entries; i++) {
            x.lie(0, 1, i);
        }
        Check.due("audit", x.audit(1, 0), 2);
        return x;
    }

    // Node 1 found a fork out: evidence 0 of node 0, with so many entries in it.
    static TellTale withFork(int nodes, int entries) {
        TellTale x = opened(nodes);
        for (int i = 0; i < entries; i++) {
            x.lie(0, 1, SILENT);
        }
        x.deliver(0);
        x.bend(0, 1, 1);
        Check.due("audit", x.audit(1, 0), 2);
        return x;
    }
}
