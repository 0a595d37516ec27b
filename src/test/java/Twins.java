import java.util.ArrayList;
import java.util.List;

/**
 * Two objects made alike: one is asked what must be refused, the other is not, and then both must answer everything
 * else alike. So a refused call that changed anything is seen, letters and what is kept too, which no call shows.
 */
final class Twins {
    interface Recipe {
        TellTale make();
    }

    interface Ask {
        void of(TellTale x);
    }

    interface Answer {
        long of(TellTale x);
    }

    private final TellTale x;
    private final List<String> seen = new ArrayList<>();

    private Twins(TellTale x) {
        this.x = x;
    }

    static void refuse(String exception, String call, Recipe recipe, Ask ask) {
        TellTale asked = recipe.make();
        Check.due(call + " throws", Check.outcome(() -> ask.of(asked)), exception);
        alike(call, asked, recipe.make());
    }

    static void alike(String call, TellTale asked, TellTale left) {
        List<String> got = new Twins(asked).lookAtAll();
        List<String> want = new Twins(left).lookAtAll();
        for (int i = 0; i < Math.max(got.size(), want.size()); i++) {
            String one = i < got.size() ? got.get(i) : "nothing more";
            String other = i < want.size() ? want.get(i) : "nothing more";
            if (!one.equals(other)) {
                Check.tell(call + " changed something: then " + one + ", without it " + other);
                return;
            }
        }
    }

    private List<String> lookAtAll() {
        lookOnly();
        lookAtEvidence();
        lookAtLetters();
        handOverAll();
        for (int node = 0; node < x.total(3); node++) {
            int i = node;
            see("forward(" + i + ")", y -> y.forward(i));
        }
        handOverAll();
        for (int node = 0; node < x.total(3); node++) {
            int i = node;
            see("hide(" + i + ", false)", y -> y.hide(i, false) ? 1 : 0);
            for (int far = 1; far <= 2; far++) {
                int witness = (i + far) % x.total(3);
                see("audit(" + witness + ", " + i + ")", y -> y.audit(witness, i));
            }
        }
        lookOnly();
        return seen;
    }

    private void see(String call, Answer answer) {
        try {
            seen.add(call + " = " + answer.of(x));
        } catch (RuntimeException e) {
            seen.add(call + " throws " + e.getClass().getSimpleName());
        }
    }

    // A head tells of all entries before it, so the last one is enough of a log.
    private void lookOnly() {
        for (int what = 0; what <= 3; what++) {
            int w = what;
            see("total(" + w + ")", y -> y.total(w));
        }
        for (int node = 0; node < x.total(3); node++) {
            int i = node;
            for (int what = 0; what <= 4; what++) {
                int w = what;
                see("about(" + i + ", " + w + ")", y -> y.about(i, w));
            }
            see("last head of " + i, y -> y.head(i, y.about(i, 0)));
            for (int other = 0; other < x.total(3); other++) {
                int of = other;
                see("verdict(" + i + ", " + of + ")", y -> y.verdict(i, of));
            }
        }
    }

    private void lookAtEvidence() {
        for (int piece = 0; piece < x.total(2); piece++) {
            int e = piece;
            for (int at = 0; at == 0 || x.byteOf(e, at - 1) != TellTale.NONE; at++) {
                int i = at;
                see("byteOf(" + e + ", " + i + ")", y -> y.byteOf(e, i));
            }
            see("holds(" + e + ")", y -> y.holds(e) ? 1 : 0);
        }
    }

    // Of a full row the first and the last ones, that an object is not used too often.
    private void lookAtLetters() {
        int letters = x.total(0);
        for (int letter = 0; letter < letters; letter += letter == 4 && letters > 10 ? letters - 8 : 1) {
            int i = letter;
            see("value of letter " + i, y -> tellsAgain(y, i));
        }
    }

    private static long tellsAgain(TellTale y, int i) {
        int value = y.spoil(i, 0);
        y.spoil(i, value);
        return value;
    }

    private void handOverAll() {
        for (int i = 0; i < 20 && x.total(0) > 0; i++) {
            see("deliver(0)", y -> y.deliver(0) ? 1 : 0);
        }
    }
}
