import java.lang.reflect.Array;
import java.lang.reflect.Field;

/**
 * Two limits that no 512 calls of the face can reach, and a signature that no call can spoil. So this test alone
 * reaches in: it knows the program's private fields, and is to be changed when they get other names.
 */
public final class LimitsTest {
    private static final int SILENT = Scenes.SILENT;

    public static void main(String[] args) {
        Check.all(LimitsTest.class);
    }

    private static Object inside(Object of, String field) {
        try {
            return open(of, field).get(of);
        } catch (ReflectiveOperationException e) {
            throw new IllegalStateException(e);
        }
    }

    private static void put(Object of, String field, Object value) {
        try {
            open(of, field).set(of, value);
        } catch (ReflectiveOperationException e) {
            throw new IllegalStateException(e);
        }
    }

    private static Field open(Object of, String name) throws ReflectiveOperationException {
        Field field = of.getClass().getDeclaredField(name);
        field.setAccessible(true);
        return field;
    }

    private static Object node(TellTale x, int node) {
        return Array.get(inside(x, "row"), node);
    }

    // As if the witness had never found the node out.
    private static void forget(TellTale x, int witness, int node) {
        ((int[]) inside(node(x, witness), "opinions"))[node] = 0;
    }

    // As if it kept so many heads of node 0, of numbers that its log has not, and had forwarded all.
    private static void keepSoMany(TellTale x, int node, int heads) {
        Object shelf = inside(node(x, node), "shelf");
        for (int i = 0; i < heads; i++) {
            ((int[]) inside(shelf, "signers"))[i] = 0;
            ((int[]) inside(shelf, "numbers"))[i] = 100;
            ((long[]) inside(shelf, "heads"))[i] = i;
            ((boolean[]) inside(shelf, "forwarded"))[i] = true;
        }
        put(shelf, "count", heads);
        Check.due("kept", x.about(node, 3), heads);
    }

    // Node 1 of three keeps so many heads of node 0, and a message with an answer to it lies there.
    private static TellTale keeping(int heads) {
        TellTale x = new TellTale();
        keepSoMany(x, 1, heads);
        x.lie(2, 1, 6);
        return x;
    }

    // A node keeps up to 300.
    static void promise04KeepsThe300th() {
        TellTale x = keeping(299);
        Check.due("deliver", x.deliver(0), true);
        Check.due("kept", x.about(1, 3), 300);
        Check.due("it is forwarded", x.forward(1), 1);
    }

    // with 300 kept, is not kept more; the message is taken all the same
    static void promise04TakesWith300Kept() {
        TellTale x = keeping(300);
        x.copy(0);
        Check.due("deliver", x.deliver(0), true);
        Check.due("kept", x.about(1, 3), 300);
        Check.due("taken", x.about(1, 4), 1);
        Check.due("receipt", x.entry(1, 1, 0), 2);
        Check.due("answer", x.entry(1, 2, 2), 8 << 5);
        Check.due("letters", x.total(0), 2);
        Check.due("a copy", x.deliver(0), false);
        Check.due("nothing to forward", x.forward(1), 0);
    }

    // A note is kept if there is room: A node keeps up to 300.
    static void promise04NoteWith299Kept() {
        TellTale x = noteTo1(299);
        Check.due("deliver", x.deliver(0), true);
        Check.due("kept", x.about(1, 3), 300);
    }

    static void promise04NoteWith300Kept() {
        TellTale x = noteTo1(300);
        Check.due("deliver", x.deliver(0), false);
        Check.due("kept", x.about(1, 3), 300);
        Check.due("letters", x.total(0), 0);
    }

    private static TellTale noteTo1(int heads) {
        TellTale x = new TellTale();
        x.lie(0, 2, SILENT);
        x.deliver(0);
        Check.due("notes", x.forward(2), 1);
        keepSoMany(x, 1, heads);
        return x;
    }

    // A NOTE ..., if the signature is right
    static void promise04NoteWithAWrongSignature() {
        TellTale x = noteTo1(0);
        Object letter = Array.get(inside(inside(x, "post"), "letters"), 0);
        long right = (Long) inside(letter, "signature");
        put(letter, "signature", right + 1);
        x.copy(0);
        Check.due("deliver", x.deliver(0), false);
        Check.due("kept", x.about(1, 3), 0);
        Check.due("letters", x.total(0), 1);
        put(Array.get(inside(inside(x, "post"), "letters"), 0), "signature", right);
        Check.due("a right one", x.deliver(0), true);
    }

    // A node sends notes of all that it keeps
    static void promise08Forwards300() {
        TellTale x = keeping(299);
        x.deliver(0);
        boolean[] forwarded = (boolean[]) inside(inside(node(x, 1), "shelf"), "forwarded");
        for (int i = 0; i < 299; i++) {
            forwarded[i] = false;
        }
        Check.due("notes", x.forward(1), 300);
        Check.due("letters", x.total(0), 200);
        Check.due("sent", x.total(1), 302);
    }

    // and the witness keeps the last head ..., if it ... has room
    static void promise13KeepsThe300th() {
        TellTale x = new TellTale();
        keepSoMany(x, 2, 299);
        x.input(1, 1);
        Check.due("audit", x.audit(2, 1), 0);
        Check.due("kept", x.about(2, 3), 300);
    }

    static void promise13TrustsWith300Kept() {
        TellTale x = new TellTale();
        keepSoMany(x, 2, 300);
        x.input(1, 1);
        Check.due("audit", x.audit(2, 1), 0);
        Check.due("kept", x.about(2, 3), 300);
        x.bend(1, 1, 3);
        Check.due("the head was not kept", x.audit(2, 1), 0);
    }

    static void promise13TheLastKeptIsLookedAt() {
        TellTale x = new TellTale();
        keepSoMany(x, 2, 299);
        x.input(1, 1);
        x.audit(2, 1);
        x.cut(1, 0);
        Check.due("audit of what is gone", x.audit(2, 1), 1);
        x.input(1, 4);
        x.bend(1, 1, 3);
        Check.due("audit of a fork", x.audit(2, 1), 2);
    }

    // Node 1 of four found out node 0 so many times.
    private static TellTale found(int times) {
        TellTale x = Scenes.opened(4);
        x.lie(0, 1, SILENT);
        x.input(3, 1);
        for (int i = 0; i < times; i++) {
            Check.due("audit number " + i, x.audit(1, 0), 2);
            forget(x, 1, 0);
        }
        Check.due("evidence", x.total(2), times);
        return x;
    }

    // EVIDENCE (up to 40)
    static void promise13FindsThe40th() {
        TellTale x = found(39);
        Check.due("audit", x.audit(1, 0), 2);
        Check.due("evidence", x.total(2), 40);
        Check.due("holds(39)", x.holds(39), true);
        Check.due("judge(2, 39)", x.judge(2, 39), true);
        Check.due("byteOf(39, 0)", x.byteOf(39, 0), 2);
        Check.due("smudge(39, 0, 1)", x.smudge(39, 0, 1), 2);
        Check.iae("holds(40)", () -> x.holds(40));
    }

    // IllegalStateException: there are 40 pieces of evidence (whatever would be found of the node).
    static void promise13RefusesWith40WhatWouldBeExposed() {
        refuseWith40("audit(1, 0)", x -> x.audit(1, 0));
    }

    static void promise13RefusesWith40WhatWouldBeTrusted() {
        refuseWith40("audit(0, 3)", x -> x.audit(0, 3));
        refuseWith40("audit(2, 1) of an empty log", x -> x.audit(2, 1));
    }

    static void promise13RefusesWith40WhatWouldBeSuspected() {
        TellTale x = found(40);
        x.hide(0, true);
        Check.ise("audit of one that hides", () -> x.audit(1, 0));
        Check.due("verdict", x.verdict(1, 0), 0);
    }

    static void promise13RefusesWith40WhatIsExposed() {
        TellTale x = found(40);
        x.judge(1, 0);
        Check.due("verdict", x.verdict(1, 0), 2);
        Check.ise("audit", () -> x.audit(1, 0));
        Check.due("verdict still", x.verdict(1, 0), 2);
        Check.due("evidence", x.total(2), 40);
    }

    // of several exceptions that fit the one named first is thrown
    static void promise13WrongNodesGoBeforeThe40() {
        for (int[] wrong : new int[][] {{0, 0}, {3, 0}, {2, 3}, {4, 0}, {1, 4}, {-1, 0}, {1, -1}}) {
            TellTale x = found(40);
            Check.iae("audit(" + wrong[0] + ", " + wrong[1] + ")", () -> x.audit(wrong[0], wrong[1]));
        }
    }

    // all else is as at first
    static void promise02OpensWith40() {
        TellTale x = found(40);
        x.open(4);
        Check.due("evidence", x.total(2), 0);
        Check.due("audit", x.audit(1, 0), 0);
    }

    // 40 pieces of 20 bytes are more than a Twin may look at by 512 calls: what an audit could change is looked at.
    private static void refuseWith40(String call, Twins.Ask ask) {
        TellTale x = found(40);
        Check.ise(call, () -> ask.of(x));
        Check.due("evidence", x.total(2), 40);
        for (int node = 0; node < 4; node++) {
            Check.due("kept by " + node, x.about(node, 3), 0);
            for (int of = 0; of < 4; of++) {
                if (of != node) {
                    Check.due("verdict(" + node + ", " + of + ")", x.verdict(node, of), 0);
                }
            }
        }
    }
}
