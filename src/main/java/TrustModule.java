import java.util.NoSuchElementException;

/** A trusted module, after the numbered promises of DOC.md; words in capitals there are the names here. */
public final class TrustModule {
    private static final int BANKS = 2;
    private static final int PCRS = 8;
    private static final int HIERARCHIES = 3;
    private static final int OWNER = 0;
    private static final int NULL = 2;
    private static final int HANDLES = 4;
    private static final int BLOBS = 8;
    private static final int BLOB_LONGS = 4;
    private static final int SESSIONS = 3;
    private static final int INDICES = 4;

    private static final int WITHOUT_LIMIT = -1;
    private static final int MOST_UNITS = 100;
    private static final int WRITING_PARTS = 3;
    private static final int DEFINING_PARTS = 2;
    private static final int LOCKING_GUESSES = 3;
    private static final int FASTER = 1;
    private static final int SLOWER = 2;

    private static final int TOLD_NAME = 2;
    private static final int TOLD_BLOB = 3;
    private static final int TOLD_DIGEST = 4;
    /** How many numbers told has for each what: two BANKS, HANDLES, the longs of all BLOBS, SESSIONS. */
    private static final int[] TOLD_SIZES = {8, 8, 4, 32, 3};

    private final long[] seeds = new long[HIERARCHIES];
    private final long[][] pcrs = new long[BANKS][PCRS];
    private final Key[] keys = new Key[HANDLES];
    private final Blob[] blobs = new Blob[BLOBS];
    private final Session[] sessions = new Session[SESSIONS];
    private final Index[] indices = new Index[INDICES];
    private int pcrCount;
    private long greatestCounted;
    private int powerLeft;
    private boolean lost;
    private int timesLost;
    private int wrongGuesses;
    private double mark;
    private double now;
    private double pace;

    public TrustModule(int s) {
        for (int i = 0; i < HIERARCHIES; i++) {
            seeds[i] = hash(s, i);
        }
        for (int k = 0; k < HANDLES; k++) {
            keys[k] = new Key();
        }
        for (int b = 0; b < BLOBS; b++) {
            blobs[b] = new Blob();
        }
        for (int i = 0; i < SESSIONS; i++) {
            sessions[i] = new Session();
        }
        for (int x = 0; x < INDICES; x++) {
            indices[x] = new Index();
        }
        pace = 1.0;
        powerComes(WITHOUT_LIMIT);
    }

    public void power(int units) throws IllegalArgumentException {
        refuseOutside(units, WITHOUT_LIMIT, MOST_UNITS);
        powerComes(units);
    }

    public long extend(int bank, int i, long v) throws IllegalArgumentException, IllegalStateException {
        refuseUnlessBelow(bank, BANKS);
        refuseUnlessBelow(i, PCRS);
        refuseWhenLost();
        pcrs[bank][i] = hash(pcrs[bank][i], v);
        pcrCount++;
        return pcrs[bank][i];
    }

    public int primary(int hierarchy, long template) throws IllegalArgumentException, IllegalStateException {
        refuseUnlessBelow(hierarchy, HIERARCHIES);
        refuseWhenLost();
        int k = leastFreeHandle();
        keys[k].hold(hash(seeds[hierarchy], template), 0, 0, 0, true);
        return k;
    }

    public void create(int p, int b, long secret, int word, long policy)
            throws IllegalArgumentException, IllegalStateException, NoSuchElementException,
            UnsupportedOperationException {
        refuseUnlessBelow(p, HANDLES);
        refuseUnlessBelow(b, BLOBS);
        refuseWhenLost();
        Key parent = heldKey(p);
        refuseUnlessParent(parent);
        blobs[b].wrap(parent.value, secret, word, policy);
    }

    public int load(int p, int b)
            throws IllegalArgumentException, IllegalStateException, NoSuchElementException,
            UnsupportedOperationException, ArithmeticException {
        refuseUnlessBelow(p, HANDLES);
        refuseUnlessBelow(b, BLOBS);
        refuseWhenLost();
        Key parent = heldKey(p);
        Blob blob = madeBlob(b);
        refuseUnlessParent(parent);
        refuseTampered(blob, parent.value);
        int k = leastFreeHandle();
        long secret = blob.secretUnder(parent.value);
        keys[k].hold(hash(parent.value, blob.longs[3]), blob.wordUnder(parent.value), blob.longs[2], secret,
                (secret & 1) == 0);
        return k;
    }

    public void tamper(int b, int i, long v) throws IllegalArgumentException, NoSuchElementException {
        refuseUnlessBelow(b, BLOBS);
        refuseUnlessBelow(i, BLOB_LONGS);
        Blob blob = madeBlob(b);
        blob.longs[i] = blob.longs[i] ^ v;
    }

    public void flush(int k) throws IllegalArgumentException, IllegalStateException, NoSuchElementException {
        refuseUnlessBelow(k, HANDLES);
        refuseWhenLost();
        heldKey(k).held = false;
    }

    public long open(int k, int word)
            throws IllegalArgumentException, IllegalStateException, NoSuchElementException,
            UnsupportedOperationException {
        refuseUnlessBelow(k, HANDLES);
        refuseWhenLost();
        Key key = heldKey(k);
        allowByWord(key, word);
        return key.secret;
    }

    public long unseal(int k, int s)
            throws IllegalArgumentException, IllegalStateException, NoSuchElementException,
            UnsupportedOperationException {
        refuseUnlessBelow(k, HANDLES);
        refuseUnlessBelow(s, SESSIONS);
        refuseWhenLost();
        Key key = heldKey(k);
        allowBySession(key.policy, sessions[s]);
        sessions[s].beginAnew();
        return key.secret;
    }

    public void session(int s) throws IllegalArgumentException, IllegalStateException {
        refuseUnlessBelow(s, SESSIONS);
        refuseWhenLost();
        sessions[s].beginAnew();
    }

    public long pcr(int s, int bank, int mask) throws IllegalArgumentException, IllegalStateException {
        refuseUnlessBelow(s, SESSIONS);
        refuseUnlessBelow(bank, BANKS);
        refuseOutside(mask, 1, 255);
        refuseWhenLost();
        Session session = sessions[s];
        session.digest = hash(hash(session.digest, 11), hashOfPcrs(bank, mask));
        session.looked = true;
        session.countSeen = pcrCount;
        return session.digest;
    }

    public long either(int s, long a, long b)
            throws IllegalArgumentException, IllegalStateException, UnsupportedOperationException {
        refuseUnlessBelow(s, SESSIONS);
        refuseWhenLost();
        Session session = sessions[s];
        if (session.digest != a && session.digest != b) {
            throw new UnsupportedOperationException("the digest is neither of the two");
        }
        session.digest = hash(12, hash(a, b));
        return session.digest;
    }

    public long with(int s, int k, int word)
            throws IllegalArgumentException, IllegalStateException, NoSuchElementException,
            UnsupportedOperationException {
        refuseUnlessBelow(s, SESSIONS);
        refuseUnlessBelow(k, HANDLES);
        refuseWhenLost();
        Key key = heldKey(k);
        allowByWord(key, word);
        Session session = sessions[s];
        session.digest = hash(hash(session.digest, 13), key.name());
        return session.digest;
    }

    public void define(int x, boolean counter, long policy) throws IllegalArgumentException, IllegalStateException {
        refuseUnlessBelow(x, INDICES);
        refuseWhenLost();
        if (indices[x].defined) {
            throw new IllegalStateException("the index is defined already");
        }
        useParts(DEFINING_PARTS);
        indices[x].begin(counter, policy);
    }

    public void remove(int x) throws IllegalArgumentException, IllegalStateException, NoSuchElementException {
        refuseUnlessBelow(x, INDICES);
        refuseWhenLost();
        Index index = definedIndex(x);
        useParts(DEFINING_PARTS);
        index.defined = false;
    }

    public long write(int x, int s, long v)
            throws IllegalArgumentException, IllegalStateException, NoSuchElementException,
            UnsupportedOperationException {
        refuseUnlessBelow(x, INDICES);
        refuseUnlessBelow(s, SESSIONS);
        refuseWhenLost();
        Index index = definedIndex(x);
        if (index.policy != 0) {
            allowBySession(index.policy, sessions[s]);
        }
        useParts(WRITING_PARTS);
        // Only now: a call that loses power must leave the session as it was.
        if (index.policy != 0) {
            sessions[s].beginAnew();
        }
        index.value = index.counter ? nextCounted() : v;
        index.written = true;
        return index.value;
    }

    public long read(int x) throws IllegalArgumentException, IllegalStateException, NoSuchElementException {
        refuseUnlessBelow(x, INDICES);
        refuseWhenLost();
        Index index = definedIndex(x);
        if (!index.written) {
            throw new NoSuchElementException("the index was never written");
        }
        return index.value;
    }

    public double clock(int units, int how) throws IllegalArgumentException, IllegalStateException {
        refuseOutside(units, 0, MOST_UNITS);
        refuseOutside(how, 0, SLOWER);
        refuseWhenLost();
        now = now + (double) units * pace;
        forgiveGuesses();
        if (how == FASTER) {
            setPace(pace * 1.25);
        } else if (how == SLOWER) {
            setPace(pace * 0.75);
        }
        return now;
    }

    public void clear() throws IllegalStateException {
        refuseWhenLost();
        seeds[OWNER] = hash(seeds[OWNER], 4);
        freeHandles();
        // The greatest value counted stays: a counter must never come back to a value that one had.
        for (int x = 0; x < INDICES; x++) {
            indices[x].defined = false;
        }
        wrongGuesses = 0;
    }

    public long told(int what, int i) throws IllegalArgumentException, NoSuchElementException {
        refuseUnlessBelow(what, TOLD_SIZES.length);
        refuseUnlessBelow(i, TOLD_SIZES[what]);
        switch (what) {
            case TOLD_NAME:
                return heldKey(i).name();
            case TOLD_BLOB:
                return madeBlob(i / BLOB_LONGS).longs[i % BLOB_LONGS];
            case TOLD_DIGEST:
                return sessions[i].digest;
            default:
                return pcrs[what][i];
        }
    }

    public int count(int what) {
        switch (what) {
            case 0:
                return heldKeys();
            case 1:
                return wrongGuesses;
            case 2:
                return pcrCount;
            case 3:
                return powerLeft;
            case 4:
                return lost ? 1 : 0;
            case 5:
                return definedIndices();
            case 6:
                return madeBlobs();
            case 7:
                return timesLost;
            default:
                return -1;
        }
    }

    public double rate() {
        return pace;
    }

    /** H of the document. */
    private static long hash(long a, long b) {
        long h = (a * 1000003L + b) * -7046029254386353131L;
        h = (h ^ (h >>> 29)) * 31L;
        return h ^ (h >>> 32);
    }

    private static void refuseOutside(int number, int least, int most) {
        if (number < least || number > most) {
            throw new IllegalArgumentException("a number is out of range");
        }
    }

    private static void refuseUnlessBelow(int number, int bound) {
        refuseOutside(number, 0, bound - 1);
    }

    private void refuseWhenLost() {
        if (lost) {
            throw new IllegalStateException("power is lost");
        }
    }

    private static void refuseUnlessParent(Key key) {
        if (!key.parent) {
            throw new UnsupportedOperationException("the key is no parent");
        }
    }

    private static void refuseTampered(Blob blob, long parentValue) {
        if (blob.longs[3] != blob.sealUnder(parentValue)) {
            throw new ArithmeticException("the blob was tampered with");
        }
    }

    private Key heldKey(int k) {
        if (!keys[k].held) {
            throw new NoSuchElementException("the handle is free");
        }
        return keys[k];
    }

    private Blob madeBlob(int b) {
        if (!blobs[b].made) {
            throw new NoSuchElementException("there is no such blob");
        }
        return blobs[b];
    }

    private Index definedIndex(int x) {
        if (!indices[x].defined) {
            throw new NoSuchElementException("the index is not defined");
        }
        return indices[x];
    }

    private int leastFreeHandle() {
        for (int k = 0; k < HANDLES; k++) {
            if (!keys[k].held) {
                return k;
            }
        }
        throw new IllegalStateException("no handle is free");
    }

    private void powerComes(int units) {
        powerLeft = units;
        lost = false;
        forgetPcrs();
        freeHandles();
        for (int i = 0; i < SESSIONS; i++) {
            sessions[i].beginAnew();
        }
        seeds[NULL] = hash(seeds[NULL], 5);
        mark = now;
    }

    private void forgetPcrs() {
        for (int bank = 0; bank < BANKS; bank++) {
            for (int i = 0; i < PCRS; i++) {
                pcrs[bank][i] = 0;
            }
        }
        pcrCount = 0;
    }

    private void freeHandles() {
        for (int k = 0; k < HANDLES; k++) {
            keys[k].held = false;
        }
    }

    /** Called before the store changes, so that a loss of power leaves it as it was. */
    private void useParts(int parts) {
        if (powerLeft == WITHOUT_LIMIT) {
            return;
        }
        if (powerLeft < parts) {
            powerLeft = 0;
            lost = true;
            timesLost++;
            throw new IllegalStateException("power was lost in the midst of the call");
        }
        powerLeft = powerLeft - parts;
    }

    private long nextCounted() {
        greatestCounted++;
        return greatestCounted;
    }

    private void allowByWord(Key key, int word) {
        if (key.word == 0) {
            return;
        }
        if (wrongGuesses >= LOCKING_GUESSES) {
            throw new IllegalStateException("words are locked");
        }
        if (key.word != word) {
            wrongGuesses++;
            mark = now;
            throw new UnsupportedOperationException("the word is wrong");
        }
    }

    private void allowBySession(long policy, Session session) {
        if (policy == 0 || session.digest != policy) {
            throw new UnsupportedOperationException("the session does not satisfy the policy");
        }
        if (session.looked && session.countSeen != pcrCount) {
            throw new IllegalStateException("the registers have changed");
        }
    }

    private long hashOfPcrs(int bank, int mask) {
        long x = 0;
        for (int i = 0; i < PCRS; i++) {
            if ((mask >> i & 1) == 1) {
                x = hash(x, pcrs[bank][i]);
            }
        }
        return x;
    }

    private void forgiveGuesses() {
        while (wrongGuesses > 0 && now >= mark + 10.0) {
            wrongGuesses--;
            mark = mark + 10.0;
        }
    }

    private void setPace(double wanted) {
        if (wanted >= 0.25 && wanted <= 4.0) {
            pace = wanted;
        }
    }

    private int heldKeys() {
        int held = 0;
        for (int k = 0; k < HANDLES; k++) {
            if (keys[k].held) {
                held++;
            }
        }
        return held;
    }

    private int definedIndices() {
        int defined = 0;
        for (int x = 0; x < INDICES; x++) {
            if (indices[x].defined) {
                defined++;
            }
        }
        return defined;
    }

    private int madeBlobs() {
        int made = 0;
        for (int b = 0; b < BLOBS; b++) {
            if (blobs[b].made) {
                made++;
            }
        }
        return made;
    }

    /** What a HANDLE holds; made once and used again. */
    private static final class Key {
        boolean held;
        long value;
        int word;
        long policy;
        long secret;
        boolean parent;

        void hold(long newValue, int newWord, long newPolicy, long newSecret, boolean newParent) {
            held = true;
            value = newValue;
            word = newWord;
            policy = newPolicy;
            secret = newSecret;
            parent = newParent;
        }

        long name() {
            return hash(hash(value, word), hash(policy, secret));
        }
    }

    /** A KEY's form outside: longs 0 SECRET and 1 WORD, both hidden, 2 POLICY, 3 the seal over these. */
    private static final class Blob {
        boolean made;
        final long[] longs = new long[BLOB_LONGS];

        void wrap(long parentValue, long secret, int word, long policy) {
            made = true;
            longs[0] = secret ^ hash(parentValue, 1);
            longs[1] = word ^ hash(parentValue, 2);
            longs[2] = policy;
            longs[3] = sealUnder(parentValue);
        }

        long sealUnder(long parentValue) {
            return hash(hash(parentValue, 3), hash(hash(longs[0], longs[1]), longs[2]));
        }

        long secretUnder(long parentValue) {
            return longs[0] ^ hash(parentValue, 1);
        }

        int wordUnder(long parentValue) {
            return (int) (longs[1] ^ hash(parentValue, 2));
        }
    }

    private static final class Session {
        long digest;
        boolean looked;
        int countSeen;

        void beginAnew() {
            digest = 0;
            looked = false;
            countSeen = 0;
        }
    }

    private static final class Index {
        boolean defined;
        boolean counter;
        long policy;
        boolean written;
        long value;

        void begin(boolean newCounter, long newPolicy) {
            defined = true;
            counter = newCounter;
            policy = newPolicy;
            written = false;
            value = 0;
        }
    }
}
