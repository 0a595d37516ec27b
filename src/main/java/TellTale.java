import java.util.ArrayList;

/**
 * Machines that are held to account: logs of hashed and signed entries, letters, witnesses that audit,
 * and evidence in bytes. What each call promises stands in the project's document.
 */
public final class TellTale {
    public static final int NONE = -1;

    private static final int LEAST_NODES = 3;
    private static final int MOST_NODES = 6;
    private static final int MOST_ENTRIES = 150;
    private static final int MOST_LETTERS = 200;
    private static final int MOST_KEPT = 300;
    private static final int MOST_EVIDENCE = 40;

    private static final int INPUT = 1;
    private static final int RECEIPT = 2;
    private static final int SENDING = 3;

    private static final int MESSAGE = 1;
    private static final int NOTE = 2;

    private static final int TRUSTED = 0;
    private static final int SUSPECTED = 1;
    private static final int EXPOSED = 2;

    private static final int FORK = 1;
    private static final int RUN = 2;

    private static final int BYTES_BEFORE_ENTRIES = 4;
    private static final int BYTES_OF_ENTRY = 6;
    private static final int BYTES_OF_SIGNATURE = 8;
    private static final int BYTES_OF_FORK = 18;
    private static final int BYTES_OF_RUN = 2;
    private static final int MOST_BYTES =
            BYTES_BEFORE_ENTRIES + MOST_ENTRIES * BYTES_OF_ENTRY + BYTES_OF_SIGNATURE + BYTES_OF_FORK;

    private static final long HASH_START = 7;
    private static final long MIX_FACTOR = -7046029254386353131L;

    private int nodes;
    private final Node[] row = new Node[MOST_NODES];
    private final Post post = new Post();
    // Pieces stay in the list after open() to be written anew: evidence counts those that are in use.
    private final ArrayList<Evidence> pieces = new ArrayList<Evidence>();
    private int evidence;
    // For running a log again, and for the entries that a piece of evidence tells.
    private final Machine replay = new Machine();
    private final Log told = new Log();

    public TellTale() {
        for (int i = 0; i < MOST_NODES; i++) {
            row[i] = new Node(i);
        }
        startWith(LEAST_NODES);
    }

    public void open(int nodes) throws IllegalArgumentException {
        need(nodes >= LEAST_NODES && nodes <= MOST_NODES);
        startWith(nodes);
    }

    public int input(int node, int x) throws IllegalArgumentException, IllegalStateException {
        need(isNode(node));
        needState(row[node].log.hasTwoPlaces());
        row[node].log.append(INPUT, 0, x);
        row[node].machine.stepInput(x);
        sendWhatIsDue(row[node]);
        return row[node].log.count;
    }

    public boolean deliver(int i) throws IllegalArgumentException {
        need(isLetter(i));
        Letter letter = post.takeOut(i);
        return letter.kind == MESSAGE ? takeMessage(letter) : takeNote(letter);
    }

    public int drop(int i) throws IllegalArgumentException {
        need(isLetter(i));
        return post.takeOut(i).kind;
    }

    public boolean copy(int i) throws IllegalArgumentException {
        need(isLetter(i));
        return post.repeat(i);
    }

    public int spoil(int i, int value) throws IllegalArgumentException {
        need(isLetter(i) && post.letters[i].kind == MESSAGE);
        int was = post.letters[i].value;
        post.letters[i].value = value;
        return was;
    }

    public int forward(int node) throws IllegalArgumentException {
        need(isNode(node));
        Shelf shelf = row[node].shelf;
        int sent = 0;
        for (int i = 0; i < shelf.count; i++) {
            if (!shelf.forwarded[i]) {
                shelf.forwarded[i] = true;
                sent += sendNote(node, shelf, i, 1) + sendNote(node, shelf, i, 2);
            }
        }
        return sent;
    }

    public int lie(int node, int to, int value) throws IllegalArgumentException, IllegalStateException {
        need(isNode(node) && isNode(to) && to != node);
        needState(row[node].log.hasTwoPlaces());
        sendMessage(row[node], to, value);
        return row[node].log.count;
    }

    public int bend(int node, int k, int value) throws IllegalArgumentException {
        need(isNode(node) && k >= 1 && k <= row[node].log.count);
        int was = row[node].log.values[k];
        row[node].log.rewrite(k, value);
        return was;
    }

    public int cut(int node, int k) throws IllegalArgumentException {
        need(isNode(node) && k >= 0 && k <= row[node].log.count);
        int gone = row[node].log.count - k;
        row[node].log.count = k;
        return gone;
    }

    public boolean hide(int node, boolean hides) throws IllegalArgumentException {
        need(isNode(node));
        boolean did = row[node].hides;
        row[node].hides = hides;
        return did;
    }

    public int audit(int witness, int node) throws IllegalArgumentException, IllegalStateException {
        need(isNode(witness) && isNode(node) && isWitness(witness, node));
        needState(evidence < MOST_EVIDENCE);
        int[] opinions = row[witness].opinions;
        if (opinions[node] != EXPOSED) {
            opinions[node] = examine(row[witness].shelf, row[node]);
        }
        return opinions[node];
    }

    public boolean judge(int node, int evidence) throws IllegalArgumentException {
        need(isNode(node) && isEvidence(evidence));
        Evidence piece = pieces.get(evidence);
        boolean convinced = proves(piece);
        if (convinced) {
            row[node].opinions[piece.byteAt(1)] = EXPOSED;
        }
        return convinced;
    }

    public boolean holds(int evidence) throws IllegalArgumentException {
        need(isEvidence(evidence));
        return proves(pieces.get(evidence));
    }

    public int byteOf(int evidence, int i) throws IllegalArgumentException {
        need(isEvidence(evidence));
        Evidence piece = pieces.get(evidence);
        return piece.hasByte(i) ? piece.byteAt(i) : NONE;
    }

    public int smudge(int evidence, int i, int b) throws IllegalArgumentException {
        need(isEvidence(evidence) && pieces.get(evidence).hasByte(i) && b >= 0 && b <= 255);
        Evidence piece = pieces.get(evidence);
        int was = piece.byteAt(i);
        piece.bytes[i] = (byte) b;
        return was;
    }

    public int verdict(int node, int of) throws IllegalArgumentException {
        need(isNode(node) && isNode(of) && node != of);
        return row[node].opinions[of];
    }

    public int entry(int node, int k, int what) throws IllegalArgumentException {
        need(isNode(node) && k >= 1 && k <= row[node].log.count);
        switch (what) {
            case 0: return row[node].log.kinds[k];
            case 1: return row[node].log.whos[k];
            case 2: return row[node].log.values[k];
            default: throw new IllegalArgumentException();
        }
    }

    public long head(int node, int k) throws IllegalArgumentException {
        need(isNode(node) && k >= 0 && k <= row[node].log.count);
        return row[node].log.heads[k];
    }

    public int about(int node, int what) throws IllegalArgumentException {
        need(isNode(node));
        switch (what) {
            case 0: return row[node].log.count;
            case 1: return row[node].machine.a;
            case 2: return row[node].machine.b;
            case 3: return row[node].shelf.count;
            case 4: return row[node].takenInAll;
            default: throw new IllegalArgumentException();
        }
    }

    public int total(int what) throws IllegalArgumentException {
        switch (what) {
            case 0: return post.count;
            case 1: return post.sentInAll;
            case 2: return evidence;
            case 3: return nodes;
            default: throw new IllegalArgumentException();
        }
    }

    private void startWith(int howMany) {
        nodes = howMany;
        for (int i = 0; i < MOST_NODES; i++) {
            row[i].restart(howMany);
        }
        post.count = 0;
        post.sentInAll = 0;
        evidence = 0;
    }

    private static void need(boolean asItMayBe) throws IllegalArgumentException {
        if (!asItMayBe) {
            throw new IllegalArgumentException();
        }
    }

    private static void needState(boolean ready) throws IllegalStateException {
        if (!ready) {
            throw new IllegalStateException();
        }
    }

    private boolean isNode(int node) {
        return node >= 0 && node < nodes;
    }

    private boolean isLetter(int i) {
        return i >= 0 && i < post.count;
    }

    private boolean isEvidence(int i) {
        return i >= 0 && i < evidence;
    }

    private boolean isWitness(int witness, int node) {
        return witness == (node + 1) % nodes || witness == (node + 2) % nodes;
    }

    private static long mix(long one, long other) {
        long product = (one ^ other) * MIX_FACTOR;
        return product ^ (product >>> 29);
    }

    private static long headBehind(long before, int kind, int who, int value) {
        return mix(mix(mix(mix(HASH_START, before), kind), who), value);
    }

    private static long signatureOf(int node, int number, long signed) {
        return mix(mix(mix(HASH_START, -1 - node), number), signed);
    }

    private void sendWhatIsDue(Node sender) {
        if (sender.machine.sends) {
            sendMessage(sender, sender.machine.sendsTo, sender.machine.sendsValue);
        }
    }

    private void sendMessage(Node sender, int to, int value) {
        Log log = sender.log;
        long before = log.heads[log.count];
        log.append(SENDING, to, value);
        post.sentInAll++;
        if (post.hasRoom()) {
            Letter letter = post.addLast();
            letter.address(MESSAGE, sender.self, to);
            letter.value = value;
            letter.seal(log.count, before, signatureOf(sender.self, log.count, log.heads[log.count]));
        }
    }

    // How many were sent, 0 or 1: what the post has no room for was sent, too.
    private int sendNote(int sender, Shelf shelf, int i, int which) {
        int signer = shelf.signers[i];
        int witness = (signer + which) % nodes;
        if (witness == sender) {
            return 0;
        }
        post.sentInAll++;
        if (post.hasRoom()) {
            Letter letter = post.addLast();
            letter.address(NOTE, signer, witness);
            letter.seal(shelf.numbers[i], shelf.heads[i], signatureOf(signer, shelf.numbers[i], shelf.heads[i]));
        }
        return 1;
    }

    private boolean takeMessage(Letter letter) {
        Node receiver = row[letter.to];
        long signed = headBehind(letter.hash, SENDING, letter.to, letter.value);
        if (letter.signature != signatureOf(letter.from, letter.number, signed)
                || receiver.hasTaken(letter.from, letter.number)
                || !receiver.log.hasTwoPlaces()) {
            return false;
        }
        receiver.noteTaken(letter.from, letter.number);
        receiver.log.append(RECEIPT, letter.from, letter.value);
        receiver.shelf.keep(letter.from, letter.number, signed, false);
        receiver.machine.stepReceipt(letter.value, letter.from);
        sendWhatIsDue(receiver);
        return true;
    }

    private boolean takeNote(Letter letter) {
        return letter.signature == signatureOf(letter.from, letter.number, letter.hash)
                && row[letter.to].shelf.keep(letter.from, letter.number, letter.hash, true);
    }

    private int examine(Shelf shelf, Node node) {
        if (node.hides) {
            return SUSPECTED;
        }
        int fork = shelf.leastFork(node.self, node.log);
        if (fork != NONE) {
            writeFork(node, shelf, fork);
            return EXPOSED;
        }
        int wrong = firstWrong(node.self, node.log);
        if (wrong != NONE) {
            writeRun(node, wrong);
            return EXPOSED;
        }
        if (shelf.keepsBeyond(node.self, node.log.count)) {
            return SUSPECTED;
        }
        if (node.log.count > 0) {
            shelf.keep(node.self, node.log.count, node.log.heads[node.log.count], false);
        }
        return TRUSTED;
    }

    // NONE: the log is as the node's machine does.
    private int firstWrong(int node, Log log) {
        replay.restart(node, nodes);
        for (int k = 1; k <= log.count; k++) {
            if (!replayEntry(node, log, k)) {
                return k;
            }
        }
        return replay.sends ? log.count + 1 : NONE;
    }

    private boolean replayEntry(int node, Log log, int k) {
        int kind = log.kinds[k];
        int who = log.whos[k];
        int value = log.values[k];
        if (replay.sends) {
            replay.sends = false;
            return kind == SENDING && who == replay.sendsTo && value == replay.sendsValue;
        }
        if (kind == INPUT && who == 0) {
            replay.stepInput(value);
            return true;
        }
        if (kind == RECEIPT && isNode(who) && who != node) {
            replay.stepReceipt(value, who);
            return true;
        }
        return false;
    }

    private Evidence newPiece() {
        if (evidence == pieces.size()) {
            pieces.add(new Evidence());
        }
        Evidence piece = pieces.get(evidence);
        piece.length = 0;
        evidence++;
        return piece;
    }

    private void writeFork(Node node, Shelf shelf, int fork) {
        Evidence piece = newPiece();
        int number = shelf.numbers[fork];
        long kept = shelf.heads[fork];
        writeLog(piece, FORK, node);
        piece.append(number, 2);
        piece.append(kept, 8);
        piece.append(signatureOf(node.self, number, kept), 8);
    }

    private void writeRun(Node node, int wrong) {
        Evidence piece = newPiece();
        writeLog(piece, RUN, node);
        piece.append(wrong, 2);
    }

    private static void writeLog(Evidence piece, int kind, Node node) {
        Log log = node.log;
        piece.append(kind, 1);
        piece.append(node.self, 1);
        piece.append(log.count, 2);
        for (int k = 1; k <= log.count; k++) {
            piece.append(log.kinds[k], 1);
            piece.append(log.whos[k], 1);
            piece.append(log.values[k], 4);
        }
        piece.append(signatureOf(node.self, log.count, log.heads[log.count]), 8);
    }

    private boolean proves(Evidence piece) {
        if (!piece.isWhole() || !isNode(piece.byteAt(1)) || !readEntries(piece)) {
            return false;
        }
        int node = piece.byteAt(1);
        int at = BYTES_BEFORE_ENTRIES + told.count * BYTES_OF_ENTRY;
        if (piece.numberAt(at, 8) != signatureOf(node, told.count, told.heads[told.count])) {
            return false;
        }
        at += BYTES_OF_SIGNATURE;
        return piece.byteAt(0) == FORK ? provesFork(piece, node, at) : provesRun(piece, node, at);
    }

    // Whether the kinds are such; the piece must be whole.
    private boolean readEntries(Evidence piece) {
        int entries = (int) piece.numberAt(2, 2);
        int at = BYTES_BEFORE_ENTRIES;
        told.count = 0;
        for (int k = 1; k <= entries; k++) {
            int kind = piece.byteAt(at);
            if (kind < INPUT || kind > SENDING) {
                return false;
            }
            told.append(kind, piece.byteAt(at + 1), (int) piece.numberAt(at + 2, 4));
            at += BYTES_OF_ENTRY;
        }
        return true;
    }

    private boolean provesFork(Evidence piece, int node, int at) {
        int number = (int) piece.numberAt(at, 2);
        long kept = piece.numberAt(at + 2, 8);
        return number >= 1 && number <= told.count
                && piece.numberAt(at + 10, 8) == signatureOf(node, number, kept)
                && kept != told.heads[number];
    }

    private boolean provesRun(Evidence piece, int node, int at) {
        int wrong = firstWrong(node, told);
        return wrong != NONE && wrong == piece.numberAt(at, 2);
    }

    private static final class Node {
        final int self;
        final Machine machine = new Machine();
        final Log log = new Log();
        final Shelf shelf = new Shelf();
        final int[] opinions = new int[MOST_NODES];
        private final boolean[] taken = new boolean[MOST_NODES * (MOST_ENTRIES + 1)];
        int takenInAll;
        boolean hides;

        Node(int self) {
            this.self = self;
        }

        void restart(int nodes) {
            machine.restart(self, nodes);
            log.count = 0;
            shelf.count = 0;
            takenInAll = 0;
            hides = false;
            for (int i = 0; i < opinions.length; i++) {
                opinions[i] = TRUSTED;
            }
            for (int i = 0; i < taken.length; i++) {
                taken[i] = false;
            }
        }

        boolean hasTaken(int from, int number) {
            return taken[from * (MOST_ENTRIES + 1) + number];
        }

        void noteTaken(int from, int number) {
            taken[from * (MOST_ENTRIES + 1) + number] = true;
            takenInAll++;
        }
    }

    private static final class Machine {
        private int self;
        private int nodes;
        int a;
        int b;
        // Whether the last step sends, where to, and what.
        boolean sends;
        int sendsTo;
        int sendsValue;

        void restart(int node, int howMany) {
            self = node;
            nodes = howMany;
            a = 0;
            b = 0;
            sends = false;
        }

        void stepInput(int x) {
            a = 31 * a + x;
            sends = (a & 1) == 0;
            sendsTo = (self + 1 + (a >>> 8 & 127) % (nodes - 1)) % nodes;
            sendsValue = a >>> 1 ^ b;
        }

        void stepReceipt(int value, int from) {
            int crossed = b ^ (value + from);
            b = crossed << 5 | crossed >>> 27;
            sends = (b & 7) == 0;
            sendsTo = from;
            sendsValue = b;
        }
    }

    private static final class Log {
        int count;
        // Index k is entry k, and head k; head 0 stays 0.
        final int[] kinds = new int[MOST_ENTRIES + 1];
        final int[] whos = new int[MOST_ENTRIES + 1];
        final int[] values = new int[MOST_ENTRIES + 1];
        final long[] heads = new long[MOST_ENTRIES + 1];

        boolean hasTwoPlaces() {
            return count + 2 <= MOST_ENTRIES;
        }

        void append(int kind, int who, int value) {
            if (count < MOST_ENTRIES) {
                count++;
                kinds[count] = kind;
                whos[count] = who;
                values[count] = value;
                heads[count] = headBehind(heads[count - 1], kind, who, value);
            }
        }

        void rewrite(int k, int value) {
            values[k] = value;
            for (int i = k; i <= count; i++) {
                heads[i] = headBehind(heads[i - 1], kinds[i], whos[i], values[i]);
            }
        }
    }

    /** The signed heads that a node keeps, in the order in which it kept them. */
    private static final class Shelf {
        int count;
        final int[] signers = new int[MOST_KEPT];
        final int[] numbers = new int[MOST_KEPT];
        final long[] heads = new long[MOST_KEPT];
        final boolean[] forwarded = new boolean[MOST_KEPT];

        // What came by a note counts as forwarded from the first.
        boolean keep(int signer, int number, long signed, boolean byNote) {
            if (count >= MOST_KEPT || keeps(signer, number, signed)) {
                return false;
            }
            signers[count] = signer;
            numbers[count] = number;
            heads[count] = signed;
            forwarded[count] = byNote;
            count++;
            return true;
        }

        private boolean keeps(int signer, int number, long signed) {
            for (int i = 0; i < count; i++) {
                if (signers[i] == signer && numbers[i] == number && heads[i] == signed) {
                    return true;
                }
            }
            return false;
        }

        // The place of the kept head of least number that the log has otherwise; NONE if there is none.
        int leastFork(int signer, Log log) {
            int found = NONE;
            for (int i = 0; i < count; i++) {
                if (signers[i] == signer && numbers[i] <= log.count && heads[i] != log.heads[numbers[i]]
                        && (found == NONE || numbers[i] < numbers[found])) {
                    found = i;
                }
            }
            return found;
        }

        boolean keepsBeyond(int signer, int last) {
            for (int i = 0; i < count; i++) {
                if (signers[i] == signer && numbers[i] > last) {
                    return true;
                }
            }
            return false;
        }
    }

    /** A message (hash: the head before its entry), or a note (from: who signed; hash: the head signed). */
    private static final class Letter {
        int kind;
        int from;
        int to;
        int value;
        int number;
        long hash;
        long signature;

        void address(int newKind, int newFrom, int newTo) {
            kind = newKind;
            from = newFrom;
            to = newTo;
        }

        void seal(int newNumber, long newHash, long newSignature) {
            number = newNumber;
            hash = newHash;
            signature = newSignature;
        }

        void becomeLike(Letter other) {
            address(other.kind, other.from, other.to);
            value = other.value;
            seal(other.number, other.hash, other.signature);
        }
    }

    /** The letters that lie there; behind them in the row lie blank ones, to be written on later. */
    private static final class Post {
        int count;
        int sentInAll;
        final Letter[] letters = new Letter[MOST_LETTERS];
        // Out of the row, so that an answer to it can't be written over it.
        private Letter inHand = new Letter();

        Post() {
            for (int i = 0; i < MOST_LETTERS; i++) {
                letters[i] = new Letter();
            }
        }

        boolean hasRoom() {
            return count < MOST_LETTERS;
        }

        // Only where there is room.
        Letter addLast() {
            count++;
            return letters[count - 1];
        }

        Letter takeOut(int i) {
            Letter out = letters[i];
            count--;
            for (int j = i; j < count; j++) {
                letters[j] = letters[j + 1];
            }
            letters[count] = inHand;
            inHand = out;
            return out;
        }

        boolean repeat(int i) {
            boolean room = hasRoom();
            if (room) {
                addLast().becomeLike(letters[i]);
            }
            return room;
        }
    }

    private static final class Evidence {
        int length;
        final byte[] bytes = new byte[MOST_BYTES];

        boolean hasByte(int i) {
            return i >= 0 && i < length;
        }

        int byteAt(int i) {
            return bytes[i] & 255;
        }

        // High bytes first, as numberAt() reads them.
        void append(long number, int size) {
            for (int shift = 8 * size - 8; shift >= 0 && length < MOST_BYTES; shift -= 8) {
                bytes[length] = (byte) (number >>> shift);
                length++;
            }
        }

        long numberAt(int at, int size) {
            long number = 0;
            for (int i = at; i < at + size; i++) {
                number = number << 8 | byteAt(i);
            }
            return number;
        }

        // Whether the kind is such, and there are just as many bytes as kind and entries tell.
        boolean isWhole() {
            if (length < BYTES_BEFORE_ENTRIES || byteAt(0) != FORK && byteAt(0) != RUN) {
                return false;
            }
            int behind = byteAt(0) == FORK ? BYTES_OF_FORK : BYTES_OF_RUN;
            int entries = (int) numberAt(2, 2);
            return length == BYTES_BEFORE_ENTRIES + entries * BYTES_OF_ENTRY + BYTES_OF_SIGNATURE + behind;
        }
    }
}
