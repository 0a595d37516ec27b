import java.util.ArrayList;
import java.util.HashSet;
import java.util.List;
import java.util.Set;

/** The document once more, in lists that grow as they like: what each call is due to answer. */
final class Model {
    static final class Refused extends RuntimeException {
        private static final long serialVersionUID = 1L;

        Refused(String exception) {
            super(exception);
        }
    }

    record Entry(int kind, int who, int value) {
    }

    record Signed(int node, int number, long head) {
        long signature() {
            return Sums.sign(node, number, head);
        }
    }

    record Letter(boolean note, int from, int to, int value, int number, long before, long signature, Signed told) {
    }

    static final class Peer {
        final List<Entry> log = new ArrayList<>();
        final List<Signed> kept = new ArrayList<>();
        final List<Signed> toForward = new ArrayList<>();
        final Set<String> taken = new HashSet<>();
        int a;
        int b;
        boolean hides;
        final int[] thinks = new int[6];
    }

    Peer[] peers;
    List<Letter> letters;
    List<int[]> evidence;
    int sent;

    Model() {
        open(3);
    }

    static void refuse(boolean fits) {
        if (fits) {
            throw new Refused(Check.IAE);
        }
    }

    static void refuseState(boolean fits) {
        if (fits) {
            throw new Refused(Check.ISE);
        }
    }

    Peer peer(int node) {
        refuse(node < 0 || node >= peers.length);
        return peers[node];
    }

    Letter letter(int i) {
        refuse(i < 0 || i >= letters.size());
        return letters.get(i);
    }

    int[] piece(int i) {
        refuse(i < 0 || i >= evidence.size());
        return evidence.get(i);
    }

    void open(int nodes) {
        refuse(nodes < 3 || nodes > 6);
        peers = new Peer[nodes];
        for (int i = 0; i < nodes; i++) {
            peers[i] = new Peer();
        }
        letters = new ArrayList<>();
        evidence = new ArrayList<>();
        sent = 0;
    }

    static long headOf(List<Entry> log, int k) {
        long head = 0;
        for (Entry entry : log.subList(0, k)) {
            head = Sums.hash(head, entry.kind, entry.who, entry.value);
        }
        return head;
    }

    void post(Letter letter) {
        sent++;
        if (letters.size() < 200) {
            letters.add(letter);
        }
    }

    void enterSending(int node, int to, int value) {
        List<Entry> log = peers[node].log;
        long before = headOf(log, log.size());
        log.add(new Entry(3, to, value));
        Signed signed = new Signed(node, log.size(), headOf(log, log.size()));
        post(new Letter(false, node, to, value, log.size(), before, signed.signature(), null));
    }

    int input(int node, int x) {
        Peer peer = peer(node);
        refuseState(peer.log.size() > 148);
        peer.log.add(new Entry(1, 0, x));
        peer.a = 31 * peer.a + x;
        if (peer.a % 2 == 0) {
            enterSending(node, Sums.inputSendsTo(node, peer.a, peers.length), Sums.inputSendsValue(peer.a, peer.b));
        }
        return peer.log.size();
    }

    int deliver(int i) {
        Letter letter = letter(i);
        letters.remove(i);
        Peer receiver = peers[letter.to];
        if (letter.note) {
            boolean keeps = !receiver.kept.contains(letter.told) && receiver.kept.size() < 300;
            if (keeps) {
                receiver.kept.add(letter.told);
            }
            return keeps ? 1 : 0;
        }
        Signed signed = new Signed(letter.from, letter.number, Sums.hash(letter.before, 3, letter.to, letter.value));
        String name = letter.from + ":" + letter.number;
        if (signed.signature() != letter.signature || receiver.taken.contains(name) || receiver.log.size() > 148) {
            return 0;
        }
        receiver.taken.add(name);
        keep(receiver, signed);
        receiver.log.add(new Entry(2, letter.from, letter.value));
        receiver.b = Sums.receipt(receiver.b, letter.value, letter.from);
        if (receiver.b % 8 == 0) {
            enterSending(letter.to, letter.from, receiver.b);
        }
        return 1;
    }

    static void keep(Peer peer, Signed signed) {
        if (!peer.kept.contains(signed) && peer.kept.size() < 300) {
            peer.kept.add(signed);
            peer.toForward.add(signed);
        }
    }

    int drop(int i) {
        int kind = letter(i).note ? 2 : 1;
        letters.remove(i);
        return kind;
    }

    int copy(int i) {
        Letter letter = letter(i);
        if (letters.size() >= 200) {
            return 0;
        }
        letters.add(letter);
        return 1;
    }

    int spoil(int i, int value) {
        Letter l = letter(i);
        refuse(l.note);
        letters.set(i, new Letter(false, l.from, l.to, value, l.number, l.before, l.signature, null));
        return l.value;
    }

    int forward(int node) {
        int notes = 0;
        for (Signed signed : peer(node).toForward) {
            for (int far = 1; far <= 2; far++) {
                int witness = (signed.node + far) % peers.length;
                if (witness != node) {
                    post(new Letter(true, node, witness, 0, 0, 0, 0, signed));
                    notes++;
                }
            }
        }
        peers[node].toForward.clear();
        return notes;
    }

    int lie(int node, int to, int value) {
        refuse(peer(node) == peer(to));
        refuseState(peers[node].log.size() > 148);
        enterSending(node, to, value);
        return peers[node].log.size();
    }

    int bend(int node, int k, int value) {
        List<Entry> log = peer(node).log;
        refuse(k < 1 || k > log.size());
        Entry was = log.get(k - 1);
        log.set(k - 1, new Entry(was.kind, was.who, value));
        return was.value;
    }

    int cut(int node, int k) {
        List<Entry> log = peer(node).log;
        refuse(k < 0 || k > log.size());
        int gone = log.size() - k;
        log.subList(k, log.size()).clear();
        return gone;
    }

    int hide(int node, int hides) {
        int did = peer(node).hides ? 1 : 0;
        peers[node].hides = hides == 1;
        return did;
    }

    int audit(int witness, int node) {
        Peer by = peer(witness);
        Peer of = peer(node);
        int far = Math.floorMod(witness - node, peers.length);
        refuse(far != 1 && far != 2);
        refuseState(evidence.size() >= 40);
        if (by.thinks[node] != 2) {
            by.thinks[node] = audited(by, of, node);
        }
        return by.thinks[node];
    }

    private int audited(Peer by, Peer of, int node) {
        int entries = of.log.size();
        if (of.hides) {
            return 1;
        }
        for (int number = 1; number <= entries; number++) {
            for (Signed signed : by.kept) {
                if (signed.node == node && signed.number == number && signed.head != headOf(of.log, number)) {
                    evidence.add(Sums.fork(node, rows(of.log), number, signed.head));
                    return 2;
                }
            }
        }
        int wrong = firstWrong(of.log, node);
        if (wrong > 0) {
            evidence.add(Sums.run(node, rows(of.log), wrong));
            return 2;
        }
        for (Signed signed : by.kept) {
            if (signed.node == node && signed.number > entries) {
                return 1;
            }
        }
        if (entries > 0) {
            keep(by, new Signed(node, entries, headOf(of.log, entries)));
        }
        return 0;
    }

    private static int[][] rows(List<Entry> log) {
        int[][] rows = new int[log.size()][];
        for (int i = 0; i < rows.length; i++) {
            rows[i] = new int[] {log.get(i).kind, log.get(i).who, log.get(i).value};
        }
        return rows;
    }

    // 0 if there is none.
    int firstWrong(List<Entry> log, int node) {
        int a = 0;
        int b = 0;
        Entry due = null;
        for (int k = 1; k <= log.size(); k++) {
            Entry entry = log.get(k - 1);
            if (due != null) {
                if (!entry.equals(due)) {
                    return k;
                }
                due = null;
            } else if (entry.kind == 1 && entry.who == 0) {
                a = 31 * a + entry.value;
                if (a % 2 == 0) {
                    due = new Entry(3, Sums.inputSendsTo(node, a, peers.length), Sums.inputSendsValue(a, b));
                }
            } else if (entry.kind == 2 && entry.who < peers.length && entry.who != node) {
                b = Sums.receipt(b, entry.value, entry.who);
                if (b % 8 == 0) {
                    due = new Entry(3, entry.who, b);
                }
            } else {
                return k;
            }
        }
        return due == null ? 0 : log.size() + 1;
    }

    int judge(int node, int number) {
        Peer peer = peer(node);
        int[] piece = piece(number);
        int convinced = holds(number);
        if (convinced == 1) {
            peer.thinks[piece[1]] = 2;
        }
        return convinced;
    }

    // A piece holds if it is what Sums would write of its own entries, number and kept head.
    int holds(int number) {
        int[] piece = piece(number);
        int kind = piece[0];
        int node = piece[1];
        int entries = piece[2] * 256 + piece[3];
        int behind = kind == 1 ? 18 : 2;
        if (kind < 1 || kind > 2 || node >= peers.length || piece.length != 4 + 6 * entries + 8 + behind) {
            return 0;
        }
        List<Entry> log = new ArrayList<>();
        for (int i = 0; i < entries; i++) {
            int at = 4 + 6 * i;
            log.add(new Entry(piece[at], piece[at + 1], (int) read(piece, at + 2, 4)));
            if (piece[at] < 1 || piece[at] > 3) {
                return 0;
            }
        }
        int at = piece.length - behind;
        int told = (int) read(piece, at, 2);
        if (kind == 2) {
            boolean wrongThere = told != 0 && told == firstWrong(log, node);
            return wrongThere && same(piece, Sums.run(node, rows(log), told)) ? 1 : 0;
        }
        long kept = read(piece, at + 2, 8);
        boolean forked = told >= 1 && told <= entries && kept != headOf(log, told);
        return forked && same(piece, Sums.fork(node, rows(log), told, kept)) ? 1 : 0;
    }

    private static boolean same(int[] one, int[] other) {
        return java.util.Arrays.equals(one, other);
    }

    private static long read(int[] piece, int at, int size) {
        long number = 0;
        for (int i = 0; i < size; i++) {
            number = number * 256 + piece[at + i];
        }
        return number;
    }

    int byteOf(int number, int i) {
        int[] piece = piece(number);
        return i < 0 || i >= piece.length ? -1 : piece[i];
    }

    int smudge(int number, int i, int b) {
        int was = byteOf(number, i);
        refuse(was == -1 || b < 0 || b > 255);
        evidence.get(number)[i] = b;
        return was;
    }

    int verdict(int node, int of) {
        refuse(peer(node) == peer(of));
        return peers[node].thinks[of];
    }

    int entry(int node, int k, int what) {
        List<Entry> log = peer(node).log;
        refuse(k < 1 || k > log.size() || what < 0 || what > 2);
        Entry entry = log.get(k - 1);
        return what == 0 ? entry.kind : what == 1 ? entry.who : entry.value;
    }

    long head(int node, int k) {
        List<Entry> log = peer(node).log;
        refuse(k < 0 || k > log.size());
        return headOf(log, k);
    }

    int about(int node, int what) {
        Peer peer = peer(node);
        refuse(what < 0 || what > 4);
        return new int[] {peer.log.size(), peer.a, peer.b, peer.kept.size(), peer.taken.size()}[what];
    }

    int total(int what) {
        refuse(what < 0 || what > 3);
        return new int[] {letters.size(), sent, evidence.size(), peers.length}[what];
    }
}
