/** Runs of 512 calls, drawn by a fixed rule: TellTale answers each as the Model does. */
public final class ModelTest {
    private static final int RUNS = 1500;
    private static final int CALLS = 512;
    private static final int KINDS = 21;

    private TellTale real = new TellTale();
    private Model model = new Model();
    private long drawn;
    private final boolean honest;
    private final boolean filling;
    private int kind;
    private final int[] args = new int[3];

    private ModelTest(int run) {
        honest = run / 4 % 4 == 0;
        filling = run / 4 % 4 == 1;
        drawn = run * 7919L + 17;
    }

    public static void main(String[] args) {
        long[] seen = new long[KINDS];
        for (int run = 0; run < RUNS; run++) {
            Check.part("run " + run);
            if (!new ModelTest(run).agrees(run, seen)) {
                break;
            }
        }
        for (int kind = 0; kind < KINDS; kind++) {
            Check.due("calls of kind " + kind + " were drawn", seen[kind] > 0, true);
        }
        Check.end();
    }

    private boolean agrees(int run, long[] seen) {
        kind = 0;
        args[0] = 3 + run % 4;
        answer(real);
        due();
        for (int i = 1; i < CALLS; i++) {
            drawCall();
            String due = due();
            String got = answer(real);
            seen[kind]++;
            if (!got.equals(due)) {
                Check.tell("call " + i + ", kind " + kind + " of " + args[0] + ", " + args[1] + ", " + args[2]
                        + " answered " + got + ", due is " + due);
                return false;
            }
        }
        return true;
    }

    private int draw(int bound) {
        drawn = drawn * 6364136223846793005L + 1442695040888963407L;
        return (int) ((drawn >>> 33) % bound);
    }

    // Mostly a number that may be, at times one off at either end.
    private int drawBelow(int bound) {
        return draw(40) == 0 ? draw(2) == 0 ? -1 : bound : bound < 1 ? 0 : draw(bound);
    }

    private int drawValue() {
        switch (draw(4)) {
            case 0: return draw(8);
            case 1: return draw(1 << 16) - (1 << 15);
            case 2: return draw(16) << 27;
            default: return draw(1 << 30) * 4 + draw(4);
        }
    }

    // In the second one node's log and the row of letters get full.
    private static final int[][] ACTIONS = {
        {1, 1, 1, 1, 2, 2, 2, 2, 2, 2, 3, 4, 5, 6, 6, 11, 11, 11, 11},
        {1, 1, 1, 1, 1, 1, 1, 1, 1, 1, 1, 1, 2, 4, 4, 4, 4, 4, 4, 4, 4, 6, 7, 7, 11}};
    private static final int[] FAULTS = {7, 8, 9, 10};
    private static final int[] LOOKS = {12, 13, 14, 16, 17, 18, 19, 20};

    private void drawCall() {
        int lot = draw(100);
        int looks = filling ? 80 : 60;
        int faults = filling ? 79 : honest ? 57 : 48;
        if (lot == 0 && draw(20) == 0 && !filling) {
            kind = 0;
        } else if (lot == 1 && !model.evidence.isEmpty()) {
            kind = 15;
        } else if (lot < faults) {
            int[] actions = ACTIONS[filling ? 1 : 0];
            kind = actions[draw(actions.length)];
        } else if (lot < looks) {
            kind = FAULTS[draw(FAULTS.length)];
        } else {
            kind = LOOKS[draw(LOOKS.length)];
        }
        drawArguments();
    }

    private void drawArguments() {
        int nodes = model.peers.length;
        int letters = model.letters.size();
        args[0] = filling && kind < 12 && draw(2) == 0 ? 0 : drawBelow(nodes);
        args[1] = drawBelow(nodes);
        args[2] = drawValue();
        int entries = args[0] >= 0 && args[0] < nodes ? model.peers[args[0]].log.size() : 0;
        switch (kind) {
            case 0: args[0] = 2 + draw(6); break;
            case 1: args[1] = drawValue(); break;
            case 2: case 3: case 4: args[0] = draw(3) > 0 ? drawBelow(letters) : 0; break;
            case 5: args[0] = drawBelow(letters); args[1] = drawSpoil(); break;
            case 8: args[1] = 1 + drawBelow(entries); break;
            case 9: args[1] = draw(2) == 0 ? entries - draw(3) : drawBelow(entries + 1); break;
            case 10: args[1] = draw(2); break;
            case 11: args[1] = Math.floorMod(args[0] - 1 - draw(2), nodes); break;
            case 12: args[1] = drawBelow(model.evidence.size()); break;
            case 13: args[0] = drawBelow(model.evidence.size()); break;
            case 14: case 15: drawByte(); break;
            case 17: args[1] = 1 + drawBelow(entries); args[2] = drawBelow(3); break;
            case 18: args[1] = drawBelow(entries + 1); break;
            case 19: args[1] = drawBelow(5); break;
            case 20: args[0] = drawBelow(4); break;
            default: break;
        }
    }

    // At times what the message told at first, as far as its sender's log still has it.
    private int drawSpoil() {
        if (args[0] < 0 || args[0] >= model.letters.size() || draw(2) == 0) {
            return drawValue();
        }
        Model.Letter letter = model.letters.get(args[0]);
        int entries = model.peers[letter.from()].log.size();
        boolean there = !letter.note() && letter.number() <= entries;
        return there ? model.peers[letter.from()].log.get(letter.number() - 1).value() : letter.value();
    }

    private void drawByte() {
        args[0] = drawBelow(model.evidence.size());
        int length = args[0] >= 0 && args[0] < model.evidence.size() ? model.evidence.get(args[0]).length : 0;
        args[1] = draw(2) == 0 ? drawBelow(length) : length - 1 - draw(12);
        args[2] = draw(30) == 0 ? 256 : draw(8) == 0 ? -1 : draw(256);
    }

    private String due() {
        try {
            return String.valueOf(ask(model));
        } catch (Model.Refused refused) {
            return refused.getMessage();
        }
    }

    private String answer(TellTale x) {
        try {
            return String.valueOf(ask(x));
        } catch (RuntimeException e) {
            return e.getClass().getSimpleName();
        }
    }

    private long ask(Model x) {
        switch (kind) {
            case 0: x.open(args[0]); return 0;
            case 1: return x.input(args[0], args[1]);
            case 2: return x.deliver(args[0]);
            case 3: return x.drop(args[0]);
            case 4: return x.copy(args[0]);
            case 5: return x.spoil(args[0], args[1]);
            case 6: return x.forward(args[0]);
            case 7: return x.lie(args[0], args[1], args[2]);
            case 8: return x.bend(args[0], args[1], args[2]);
            case 9: return x.cut(args[0], args[1]);
            case 10: return x.hide(args[0], args[1]);
            case 11: return x.audit(args[0], args[1]);
            case 12: return x.judge(args[0], args[1]);
            case 13: return x.holds(args[0]);
            case 14: return x.byteOf(args[0], args[1]);
            case 15: return x.smudge(args[0], args[1], args[2]);
            case 16: return x.verdict(args[0], args[1]);
            case 17: return x.entry(args[0], args[1], args[2]);
            case 18: return x.head(args[0], args[1]);
            case 19: return x.about(args[0], args[1]);
            default: return x.total(args[0]);
        }
    }

    private long ask(TellTale x) {
        switch (kind) {
            case 0: x.open(args[0]); return 0;
            case 1: return x.input(args[0], args[1]);
            case 2: return x.deliver(args[0]) ? 1 : 0;
            case 3: return x.drop(args[0]);
            case 4: return x.copy(args[0]) ? 1 : 0;
            case 5: return x.spoil(args[0], args[1]);
            case 6: return x.forward(args[0]);
            case 7: return x.lie(args[0], args[1], args[2]);
            case 8: return x.bend(args[0], args[1], args[2]);
            case 9: return x.cut(args[0], args[1]);
            case 10: return x.hide(args[0], args[1] == 1) ? 1 : 0;
            case 11: return x.audit(args[0], args[1]);
            case 12: return x.judge(args[0], args[1]) ? 1 : 0;
            case 13: return x.holds(args[0]) ? 1 : 0;
            case 14: return x.byteOf(args[0], args[1]);
            case 15: return x.smudge(args[0], args[1], args[2]);
            case 16: return x.verdict(args[0], args[1]);
            case 17: return x.entry(args[0], args[1], args[2]);
            case 18: return x.head(args[0], args[1]);
            case 19: return x.about(args[0], args[1]);
            default: return x.total(args[0]);
        }
    }
}
