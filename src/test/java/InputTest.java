/** Promise 3: input(), and the machine. Behind each // the sentence of the document that the test holds to. */
public final class InputTest {
    private static final int SILENT = Scenes.SILENT;

    public static void main(String[] args) {
        Check.all(InputTest.class);
    }

    private static void isEntry(TellTale x, int node, int k, int kind, int who, int value) {
        Check.due("kind of entry " + k, x.entry(node, k, 0), kind);
        Check.due("who of entry " + k, x.entry(node, k, 1), who);
        Check.due("value of entry " + k, x.entry(node, k, 2), value);
    }

    // So that A is a from then on.
    private static int inputForA(TellTale x, int node, int a) {
        int entries = x.input(node, a - 31 * x.about(node, 1));
        Check.due("A", x.about(node, 1), a);
        return entries;
    }

    // An INPUT x: A becomes 31 A + x; WHO (0; ...); how many entries the node's log has then
    static void promise03EntersAnInput() {
        TellTale x = new TellTale();
        Check.due("input(1, 7)", x.input(1, 7), 1);
        isEntry(x, 1, 1, 1, 0, 7);
        Check.due("A", x.about(1, 1), 7);
        Check.due("input(1, 4)", x.input(1, 4), 2);
        isEntry(x, 1, 2, 1, 0, 4);
        Check.due("A then", x.about(1, 1), 31 * 7 + 4);
        Check.due("B", x.about(1, 2), 0);
        Check.due("sent", x.total(1), 0);
        Check.due("another node's log", x.about(0, 0), 0);
        Check.due("another node's A", x.about(2, 1), 0);
    }

    // if A is even then, it SENDS
    static void promise03OddAIsSilent() {
        for (int odd : new int[] {1, -1, 3, Integer.MAX_VALUE, Integer.MIN_VALUE + 1}) {
            TellTale x = new TellTale();
            Check.due("entries with A = " + odd, inputForA(x, 0, odd), 1);
            Check.due("letters with A = " + odd, x.total(0), 0);
        }
    }

    static void promise03EvenASends() {
        for (int even : new int[] {2, -2, 0, 4, Integer.MIN_VALUE, Integer.MAX_VALUE - 1}) {
            TellTale x = new TellTale();
            Check.due("entries with A = " + even, inputForA(x, 0, even), 2);
            Check.due("letters with A = " + even, x.total(0), 1);
        }
    }

    static void promise03ZeroIsEven() {
        TellTale x = new TellTale();
        Check.due("input(0, 0)", x.input(0, 0), 2);
        isEntry(x, 0, 1, 1, 0, 0);
        isEntry(x, 0, 2, 3, 1, 0);
        Check.due("letters", x.total(0), 1);
    }

    // registers A and B of 32 bits: A becomes 31 A + x beyond them, too
    static void promise03AWrapsAround() {
        TellTale x = new TellTale();
        x.input(0, Integer.MAX_VALUE);
        Check.due("A at its greatest", x.about(0, 1), Integer.MAX_VALUE);
        x.input(0, Integer.MAX_VALUE);
        Check.due("A wrapped", x.about(0, 1), 32 * Integer.MAX_VALUE);
        TellTale y = new TellTale();
        y.input(0, 1);
        y.input(0, Integer.MAX_VALUE - 30);
        Check.due("A one over the greatest", y.about(0, 1), Integer.MIN_VALUE);
        y.input(0, -1);
        Check.due("A below the least", y.about(0, 1), Integer.MAX_VALUE);
    }

    // the exclusive-or of A shifted right by 1 (with zeros) and B
    static void promise03ShiftsWithZeros() {
        for (int a : new int[] {-2, Integer.MIN_VALUE, -256, Integer.MAX_VALUE - 1}) {
            TellTale x = new TellTale();
            inputForA(x, 2, a);
            Check.due("value sent with A = " + a, x.entry(2, 2, 2), a >>> 1);
        }
    }

    static void promise03SendsWithB() {
        TellTale x = new TellTale();
        x.lie(0, 1, SILENT);
        x.deliver(0);
        int b = Sums.receipt(0, SILENT, 0);
        Check.due("B", x.about(1, 2), b);
        x.input(1, 6);
        isEntry(x, 1, 3, 3, 2, 3 ^ b);
        Check.due("B stays", x.about(1, 2), b);
    }

    // A shifted right by 8, the lowest 7 bits
    static void promise03SevenBitsTellHowFar() {
        int[] as = {0, 255 & ~1, 1 << 8, 127 << 8, 128 << 8, 129 << 8, 255 << 8, 1 << 15, 1 << 16, -256, Integer.MIN_VALUE};
        int[] far = {0, 0, 1, 127, 0, 1, 127, 0, 0, 127, 0};
        for (int nodes = 3; nodes <= 6; nodes++) {
            for (int i = 0; i < as.length; i++) {
                TellTale x = Scenes.opened(nodes);
                inputForA(x, 0, as[i]);
                Check.due("who with A = " + as[i] + " of " + nodes, x.entry(0, 2, 1), 1 + far[i] % (nodes - 1));
            }
        }
    }

    // to the node (i + 1 + ... modulo (n - 1)) modulo n
    static void promise03ReachesAllOtherNodes() {
        for (int nodes = 3; nodes <= 6; nodes++) {
            for (int node = 0; node < nodes; node++) {
                TellTale x = Scenes.opened(nodes);
                for (int far = 0; far < nodes; far++) {
                    inputForA(x, node, far << 8);
                    int to = (node + 1 + (far == nodes - 1 ? 0 : far)) % nodes;
                    Check.due("who by " + node + " of " + nodes, x.entry(node, 2 * far + 2, 1), to);
                }
            }
        }
    }

    static void promise03LastNodeSendsToTheFirst() {
        for (int nodes = 3; nodes <= 6; nodes++) {
            TellTale x = Scenes.opened(nodes);
            x.input(nodes - 1, 2);
            Check.due("who by the last of " + nodes, x.entry(nodes - 1, 2, 1), 0);
            Check.due("taken", x.deliver(0), true);
            Check.due("log of the first", x.entry(0, 1, 1), nodes - 1);
        }
    }

    // Each of the 128 distances that A can tell, on either sign, for each number of nodes.
    static void promise03AllDistances() {
        for (int nodes = 3; nodes <= 6; nodes++) {
            for (int node = 0; node < nodes; node++) {
                TellTale x = Scenes.opened(nodes);
                for (int i = 0; i < 75; i++) {
                    int a = (i * 5 + node) << 8 | (i % 2 == 0 ? 0 : Integer.MIN_VALUE) | 2 * i;
                    x.input(node, a - 31 * x.about(node, 1));
                    Check.due("who with A = " + a, x.entry(node, 2 * i + 2, 1), Sums.inputSendsTo(node, a, nodes));
                    Check.due("value with A = " + a, x.entry(node, 2 * i + 2, 2), a >>> 1);
                }
            }
        }
    }

    // what a machine sends is entered right behind what made it send
    static void promise03SendingStandsRightBehind() {
        TellTale x = Scenes.opened(5);
        int[] inputs = {2, 1, -5, 1000, Integer.MIN_VALUE, 77777777, Integer.MAX_VALUE, -1, 0, 123456789};
        int a = 0;
        int entries = 0;
        int letters = 0;
        for (int value : inputs) {
            a = 31 * a + value;
            int got = x.input(2, value);
            entries++;
            isEntry(x, 2, entries, 1, 0, value);
            if (a % 2 == 0) {
                entries++;
                letters++;
                isEntry(x, 2, entries, 3, Sums.inputSendsTo(2, a, 5), Sums.inputSendsValue(a, 0));
            }
            Check.due("input(2, " + value + ")", got, entries);
            Check.due("A after " + value, x.about(2, 1), a);
            Check.due("letters after " + value, x.total(0), letters);
        }
    }

    // LETTERS lie in a row of 200 at most, what is sent into a full one is lost.
    static void promise03SendsIntoTheLastPlace() {
        TellTale x = Scenes.manyLetters(199);
        Check.due("input", x.input(2, 2), 2);
        Check.due("letters", x.total(0), 200);
        Check.due("sent", x.total(1), 2);
        Check.due("the last letter's value", x.spoil(199, 1), 1);
    }

    static void promise03SendsIntoAFullRow() {
        TellTale x = Scenes.manyLetters(200);
        Check.due("input", x.input(2, 2), 2);
        isEntry(x, 2, 2, 3, 0, 1);
        Check.due("letters", x.total(0), 200);
        Check.due("sent", x.total(1), 2);
        Check.due("the last letter's value", x.spoil(199, SILENT), SILENT);
        x.drop(0);
        Check.due("letters without one", x.total(0), 199);
        Check.due("the lost one does not come back", x.spoil(198, SILENT), SILENT);
    }

    // A LOG has ENTRIES 1, 2, .., at most 150; IllegalStateException: it has not two places left.
    static void promise03TwoPlacesLeftForOne() {
        TellTale x = Scenes.longLog(148);
        Check.due("input with A odd", x.input(1, -30), 149);
        isEntry(x, 1, 149, 1, 0, -30);
    }

    static void promise03TwoPlacesLeftForTwo() {
        TellTale x = Scenes.longLog(148);
        Check.due("input with A even", x.input(1, -29), 150);
        isEntry(x, 1, 149, 1, 0, -29);
        isEntry(x, 1, 150, 3, 2, 1);
        Check.due("sent", x.total(1), 2);
    }

    static void promise03RefusesWithOnePlaceLeft() {
        Twins.refuse(Check.ISE, "input with A even", () -> Scenes.longLog(149), x -> x.input(1, -29));
        Twins.refuse(Check.ISE, "input with A odd", () -> Scenes.longLog(149), x -> x.input(1, -30));
    }

    static void promise03RefusesWithNoPlaceLeft() {
        Twins.refuse(Check.ISE, "input with A even", Scenes::fullLog, x -> x.input(1, 0));
        Twins.refuse(Check.ISE, "input with A odd", Scenes::fullLog, x -> x.input(1, 1));
    }

    static void promise03ACutMakesRoom() {
        TellTale x = Scenes.fullLog();
        x.cut(1, 149);
        Check.ise("input with one place left", () -> x.input(1, 1));
        x.cut(1, 148);
        Check.due("input with two places left", x.input(1, 1 - 62), 149);
    }

    static void promise03AnothersLogMayBeFull() {
        TellTale x = Scenes.fullLog();
        Check.due("input(0, 1)", x.input(0, 1), 2);
        Check.due("input(2, 1)", x.input(2, 1), 1);
    }

    // IllegalArgumentException: there is no such node
    static void promise03RefusesNoNode() {
        for (int bad : new int[] {-1, 4, 5, 6, Integer.MIN_VALUE, Integer.MAX_VALUE}) {
            Twins.refuse(Check.IAE, "input(" + bad + ", 2)", Scenes::busy, x -> x.input(bad, 2));
        }
        Twins.refuse(Check.IAE, "input(3, 1) of three", Scenes::fullLog, x -> x.input(3, 1));
        Twins.refuse(Check.IAE, "input(6, 1) of six", () -> Scenes.opened(6), x -> x.input(6, 1));
    }
}
