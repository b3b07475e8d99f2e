import java.util.Arrays;

/**
 * A trusted module: it measures what a machine began as, seals what is only to be told in a certain state,
 * keeps small values and counters, asks for keys or for policies, and locks those out who try too often.
 */
public final class MeasuredVault {
    public static final int REFUSED = -1, NONE = -2, FULL = -3, DENIED = -4, LOCKED = -5, BROKEN = -6, WRONG = -7;

    private static final int GRANTED = 0;
    private static final int WIDTH = 32;
    private static final int TAPE_LIMIT = 400;
    private static final int SESSIONS = 4;
    private static final int OBJECTS = 4;
    private static final int VALUES = 8;
    private static final int FAILURES_THAT_LOCK = 4;
    private static final int DATA_LIMIT = 128;
    private static final int VALUE_LIMIT = 64;
    private static final int NONCE_LIMIT = 32;
    private static final int PLAIN = 0, COUNTER = 1, CHAIN = 2;
    private static final int BY_KEY = -1, WITHOUT_POLICY = -1;
    private static final int TO_UNSEAL = 1, TO_WRITE = 2, TO_COUNT = 3, TO_CHAIN = 4, TO_READ = 5, TO_SHUT = 6;
    private static final long LOWEST_31_BITS = 0x7fffffffL;
    private static final int TICK_LIMIT = 100000;
    private static final int CLOCK_LIMIT = 2000000000;
    private static final int TIME_THAT_FORGIVES = 100;

    private final Hasher hasher;
    private final Secret secret;
    private final Bytes tape;
    private final Bytes out;
    private final byte[] theKey;
    private final byte[] ownerAuth;
    private final byte[] noPolicy;
    private final byte[] scratch;
    private final Registers registers;
    private final Session[] sessions;
    private final Thing[] objects;
    private final Value[] values;
    private long greatest;
    private int clock;
    private int restarts;
    private int failures;

    public MeasuredVault(int seed) {
        hasher = new Hasher();
        secret = new Secret(hasher, seed);
        tape = new Bytes(TAPE_LIMIT);
        out = new Bytes(Secret.BARE_BLOB + DATA_LIMIT);
        theKey = new byte[WIDTH];
        ownerAuth = new byte[WIDTH];
        noPolicy = new byte[WIDTH];
        scratch = new byte[WIDTH];
        registers = new Registers();
        sessions = new Session[SESSIONS];
        for (int i = 0; i < SESSIONS; i++) {
            sessions[i] = new Session();
        }
        objects = new Thing[OBJECTS];
        for (int i = 0; i < OBJECTS; i++) {
            objects[i] = new Thing(DATA_LIMIT);
        }
        values = new Value[VALUES];
        for (int i = 0; i < VALUES; i++) {
            values[i] = new Value();
        }
        hashNothing(theKey);
        hashNothing(ownerAuth);
    }

    public int feed(int a, int b, int c, int d, int e) {
        if (!tape.hasRoomFor(20)) {
            return FULL;
        }
        tape.putInt(a);
        tape.putInt(b);
        tape.putInt(c);
        tape.putInt(d);
        tape.putInt(e);
        return tape.size;
    }

    public int end(int n) {
        if (n < 0 || n > tape.size) {
            return REFUSED;
        }
        tape.size = n;
        return n;
    }

    public int octet(int i) {
        if (i == -1) {
            return out.size;
        }
        if (i < 0 || i >= out.size) {
            return NONE;
        }
        return out.held[i] & 255;
    }

    public int back() {
        if (!tape.hasRoomFor(out.size)) {
            return FULL;
        }
        tape.putAll(out.held, out.size);
        return tape.size;
    }

    public int hash() {
        takeTapeHash();
        return tell(scratch, WIDTH);
    }

    public int key() {
        takeTapeHash();
        copyDigest(scratch, theKey);
        return 0;
    }

    // ---- registers

    public int extend(int r) {
        takeTapeHash();
        if (r < 0 || r >= Registers.HOW_MANY) {
            return REFUSED;
        }
        registers.mixIn(r, scratch, hasher);
        return 0;
    }

    public int reset(int r) {
        if (r != 6 && r != 7) {
            return REFUSED;
        }
        registers.zero(r);
        return 0;
    }

    public int state(int set) {
        registers.measure(set, hasher, scratch);
        return tell(scratch, WIDTH);
    }

    public int quote(int set) {
        int answer = REFUSED;
        if (tape.size <= NONCE_LIMIT) {
            registers.measure(set, hasher, scratch);
            out.size = 0;
            out.put(Secret.QUOTES);
            out.put(set);
            out.putAll(scratch, WIDTH);
            out.putInt(clock);
            out.putInt(restarts);
            out.putAll(tape.held, tape.size);
            secret.sign(out);
            answer = out.size;
        }
        tape.size = 0;
        return answer;
    }

    // ---- sessions

    public int open(int s) {
        if (s < 0 || s >= SESSIONS) {
            return REFUSED;
        }
        sessions[s].begin();
        return 0;
    }

    public int policyState(int s, int set) {
        Session session = openSession(s);
        if (session == null) {
            return REFUSED;
        }
        registers.measure(set, hasher, scratch);
        Bytes message = session.startStep(hasher, 1);
        message.put(set);
        message.putAll(scratch, WIDTH);
        hasher.finish(session.digest);
        session.bindRegisters(registers.changes);
        return 0;
    }

    public int policyAuth(int s) {
        Session session = openSession(s);
        if (session == null) {
            return REFUSED;
        }
        session.startStep(hasher, 2);
        hasher.finish(session.digest);
        session.asksAuth = true;
        return 0;
    }

    public int policyCode(int s, int code) {
        Session session = openSession(s);
        if (session == null || session.code != Session.ANY_CODE || code < TO_UNSEAL || code > TO_SHUT) {
            return REFUSED;
        }
        session.startStep(hasher, 3).put(code);
        hasher.finish(session.digest);
        session.code = code;
        return 0;
    }

    public int policyTime(int s, int time) {
        Session session = openSession(s);
        if (session == null) {
            return REFUSED;
        }
        session.startStep(hasher, 4).putInt(time);
        hasher.finish(session.digest);
        session.bindTime(time);
        return 0;
    }

    public int policyOr(int s) {
        int answer = chooseBranch(openSession(s));
        tape.size = 0;
        return answer;
    }

    public int digest(int s) {
        Session session = openSession(s);
        if (session == null) {
            return REFUSED;
        }
        return tell(session.digest, WIDTH);
    }

    // ---- sealed data

    public int seal(int s) {
        byte[] policy = policyFrom(s);
        int answer = REFUSED;
        if (policy != null && tape.size <= DATA_LIMIT) {
            secret.wrap(tape, theKey, policy, out);
            answer = out.size;
        }
        tape.size = 0;
        return answer;
    }

    public int load() {
        int answer = BROKEN;
        if (secret.unwrap(tape)) {
            answer = keepUnwrapped();
        }
        tape.size = 0;
        return answer;
    }

    public int unseal(int object, int by) {
        Thing thing = objectAt(object);
        if (thing == null) {
            return NONE;
        }
        int verdict = ask(thing, by, TO_UNSEAL);
        if (verdict != GRANTED) {
            return verdict;
        }
        return tell(thing.data.held, thing.data.size);
    }

    public int flush(int object) {
        Thing thing = objectAt(object);
        if (thing == null) {
            return NONE;
        }
        thing.present = false;
        return 0;
    }

    // ---- values

    public int define(int value, int kind, int size, int s) {
        takeTapeHash();
        byte[] policy = policyFrom(s);
        if (policy == null || value < 0 || value >= VALUES || !Value.mayBe(kind, size)) {
            return REFUSED;
        }
        if (values[value].thing.present) {
            return NONE;
        }
        int verdict = askKey(ownerAuth);
        if (verdict != GRANTED) {
            return verdict;
        }
        values[value].begin(kind, size);
        copyDigest(scratch, values[value].thing.auth);
        copyDigest(policy, values[value].thing.policy);
        return 0;
    }

    public int undefine(int value) {
        Value found = valueAt(value);
        if (found == null) {
            return NONE;
        }
        int verdict = askKey(ownerAuth);
        if (verdict != GRANTED) {
            return verdict;
        }
        found.thing.present = false;
        return 0;
    }

    public int write(int value, int at, int by) {
        int answer = writeTape(valueOf(value, PLAIN), at, by);
        tape.size = 0;
        return answer;
    }

    public int count(int value, int by) {
        Value counter = valueOf(value, COUNTER);
        if (counter == null) {
            return NONE;
        }
        int verdict = askToChange(counter, by, TO_COUNT);
        if (verdict != GRANTED) {
            return verdict;
        }
        counter.number = (counter.written ? counter.number : greatest) + 1;
        counter.written = true;
        counter.spellNumber();
        greatest = Math.max(greatest, counter.number);
        return (int) (counter.number & LOWEST_31_BITS);
    }

    public int chain(int value, int by) {
        int answer = chainTape(valueOf(value, CHAIN), by);
        tape.size = 0;
        return answer;
    }

    public int read(int value, int by) {
        Value found = valueAt(value);
        if (found == null) {
            return NONE;
        }
        if (!found.written) {
            return FULL;
        }
        int verdict = ask(found.thing, by, TO_READ);
        if (verdict != GRANTED) {
            return verdict;
        }
        return tell(found.thing.data.held, found.thing.data.size);
    }

    public int shut(int value, int by) {
        Value found = valueAt(value);
        if (found == null) {
            return NONE;
        }
        int verdict = ask(found.thing, by, TO_SHUT);
        if (verdict != GRANTED) {
            return verdict;
        }
        found.isShut = true;
        return 0;
    }

    // ---- the owner, and time

    public int own() {
        takeTapeHash();
        int verdict = askKey(ownerAuth);
        if (verdict != GRANTED) {
            return verdict;
        }
        copyDigest(scratch, ownerAuth);
        return 0;
    }

    public int unlock() {
        // The one way out of being locked: so it compares where askKey would not.
        if (!sameDigest(theKey, ownerAuth)) {
            failures++;
            return DENIED;
        }
        failures = 0;
        return 0;
    }

    public int clear() {
        int verdict = askKey(ownerAuth);
        if (verdict != GRANTED) {
            return verdict;
        }
        secret.renew();
        for (int i = 0; i < VALUES; i++) {
            values[i].thing.present = false;
        }
        freeObjects();
        hashNothing(ownerAuth);
        return 0;
    }

    public int tick(int n) {
        if (n < 0 || n > TICK_LIMIT || n > CLOCK_LIMIT - clock) {
            return REFUSED;
        }
        int later = clock + n;
        int forgiven = later / TIME_THAT_FORGIVES - clock / TIME_THAT_FORGIVES;
        failures = Math.max(0, failures - forgiven);
        clock = later;
        return clock;
    }

    public int restart() {
        restarts++;
        for (int r = 0; r < Registers.HOW_MANY; r++) {
            registers.zero(r);
        }
        for (int i = 0; i < SESSIONS; i++) {
            sessions[i].isOpen = false;
        }
        freeObjects();
        for (int i = 0; i < VALUES; i++) {
            values[i].isShut = false;
        }
        return restarts;
    }

    public int look(int what) {
        switch (what) {
            case 0:
                return failures;
            case 1:
                return clock;
            case 2:
                return restarts;
            case 3:
                return secret.blobsMade;
            case 4:
                return objectsHeld();
            case 5:
                return sessionsOpen();
            case 6:
                return valuesDefined();
            case 7:
                return tape.size;
            default:
                return REFUSED;
        }
    }

    /** Leaves H(TAPE) in the scratch row, and the tape empty as for every call that reads it. */
    private void takeTapeHash() {
        hasher.begin().putAll(tape.held, tape.size);
        hasher.finish(scratch);
        tape.size = 0;
    }

    private void hashNothing(byte[] to) {
        hasher.begin();
        hasher.finish(to);
    }

    private int tell(byte[] from, int n) {
        out.size = 0;
        out.putAll(from, n);
        return out.size;
    }

    private Session openSession(int s) {
        if (s < 0 || s >= SESSIONS || !sessions[s].isOpen) {
            return null;
        }
        return sessions[s];
    }

    private Thing objectAt(int object) {
        if (object < 0 || object >= OBJECTS || !objects[object].present) {
            return null;
        }
        return objects[object];
    }

    private Value valueAt(int value) {
        if (value < 0 || value >= VALUES || !values[value].thing.present) {
            return null;
        }
        return values[value];
    }

    private Value valueOf(int value, int kind) {
        Value found = valueAt(value);
        return found != null && found.kind == kind ? found : null;
    }

    /** The policy that seal and define are to take; null if s names none. */
    private byte[] policyFrom(int s) {
        if (s == WITHOUT_POLICY) {
            return noPolicy;
        }
        Session session = openSession(s);
        return session == null ? null : session.digest;
    }

    private int chooseBranch(Session session) {
        int branches = tape.size / WIDTH;
        if (session == null || tape.size % WIDTH != 0 || branches < 2 || branches > 8) {
            return REFUSED;
        }
        boolean found = false;
        for (int i = 0; i < branches; i++) {
            found = found || sameBytes(session.digest, tape.held, i * WIDTH);
        }
        if (!found) {
            return WRONG;
        }
        Bytes message = hasher.begin();
        message.putAll(noPolicy, WIDTH);
        message.put(5);
        message.putAll(tape.held, tape.size);
        hasher.finish(session.digest);
        return 0;
    }

    /** The tape holds a good blob, already uncovered. */
    private int keepUnwrapped() {
        for (int i = 0; i < OBJECTS; i++) {
            if (!objects[i].present) {
                Thing thing = objects[i];
                thing.present = true;
                System.arraycopy(tape.held, Secret.POLICY_AT, thing.policy, 0, WIDTH);
                System.arraycopy(tape.held, Secret.AUTH_AT, thing.auth, 0, WIDTH);
                thing.data.size = tape.size - Secret.BARE_BLOB;
                System.arraycopy(tape.held, Secret.DATA_AT, thing.data.held, 0, thing.data.size);
                return i;
            }
        }
        return FULL;
    }

    private int writeTape(Value value, int at, int by) {
        if (value == null) {
            return NONE;
        }
        Bytes data = value.thing.data;
        if (at < 0 || at > data.size || tape.size > data.size - at) {
            return REFUSED;
        }
        int verdict = askToChange(value, by, TO_WRITE);
        if (verdict != GRANTED) {
            return verdict;
        }
        System.arraycopy(tape.held, 0, data.held, at, tape.size);
        value.written = true;
        return 0;
    }

    private int chainTape(Value value, int by) {
        if (value == null) {
            return NONE;
        }
        int verdict = askToChange(value, by, TO_CHAIN);
        if (verdict != GRANTED) {
            return verdict;
        }
        byte[] link = value.thing.data.held;
        Bytes message = hasher.begin();
        message.putAll(link, WIDTH);
        message.putAll(tape.held, tape.size);
        hasher.finish(link);
        value.written = true;
        return 0;
    }

    private int askToChange(Value value, int by, int code) {
        if (value.isShut) {
            return FULL;
        }
        return ask(value.thing, by, code);
    }

    /** What the document calls BY. Comes last in a call, for it counts failures and uses sessions up. */
    private int ask(Thing thing, int by, int code) {
        if (by == BY_KEY) {
            return askKey(thing.auth);
        }
        Session session = openSession(by);
        if (session == null) {
            return REFUSED;
        }
        // A thing without policy has a policy row of zeros, which a fresh session's digest would match.
        if (sameDigest(thing.policy, noPolicy) || !sameDigest(thing.policy, session.digest)
                || !session.holds(registers.changes, code, clock)) {
            return WRONG;
        }
        if (session.asksAuth) {
            int verdict = askKey(thing.auth);
            if (verdict != GRANTED) {
                return verdict;
            }
        }
        session.isOpen = false;
        return GRANTED;
    }

    private int askKey(byte[] auth) {
        if (failures >= FAILURES_THAT_LOCK) {
            return LOCKED;
        }
        if (!sameDigest(theKey, auth)) {
            failures++;
            return DENIED;
        }
        return GRANTED;
    }

    private void freeObjects() {
        for (int i = 0; i < OBJECTS; i++) {
            objects[i].present = false;
        }
    }

    private int objectsHeld() {
        int held = 0;
        for (int i = 0; i < OBJECTS; i++) {
            held += objects[i].present ? 1 : 0;
        }
        return held;
    }

    private int sessionsOpen() {
        int found = 0;
        for (int i = 0; i < SESSIONS; i++) {
            found += sessions[i].isOpen ? 1 : 0;
        }
        return found;
    }

    private int valuesDefined() {
        int defined = 0;
        for (int i = 0; i < VALUES; i++) {
            defined += values[i].thing.present ? 1 : 0;
        }
        return defined;
    }

    private static void copyDigest(byte[] from, byte[] to) {
        System.arraycopy(from, 0, to, 0, WIDTH);
    }

    private static boolean sameDigest(byte[] a, byte[] b) {
        return sameBytes(a, b, 0);
    }

    private static boolean sameBytes(byte[] digest, byte[] row, int at) {
        for (int i = 0; i < WIDTH; i++) {
            if (digest[i] != row[at + i]) {
                return false;
            }
        }
        return true;
    }

    /** A row of bytes with a limit; what would go over the limit is left out. */
    private static final class Bytes {
        final byte[] held;
        int size;

        Bytes(int limit) {
            held = new byte[limit];
        }

        boolean hasRoomFor(int more) {
            return more <= held.length - size;
        }

        void put(int value) {
            if (size < held.length) {
                held[size] = (byte) value;
                size++;
            }
        }

        void putInt(int value) {
            put(value >>> 24);
            put(value >>> 16);
            put(value >>> 8);
            put(value);
        }

        int intAt(int i) {
            if (i < 0 || i > held.length - 4) {
                return 0;
            }
            return held[i] << 24 | (held[i + 1] & 255) << 16 | (held[i + 2] & 255) << 8 | held[i + 3] & 255;
        }

        void putAll(byte[] from, int n) {
            int taken = Math.min(n, held.length - size);
            System.arraycopy(from, 0, held, size, taken);
            size += taken;
        }
    }

    /** SHA-256 and the MAC over it. The message is gathered whole in one row, which every hash uses again. */
    private static final class Hasher {
        private static final int BLOCK = 64;
        // The longest message is a chain's 32 bytes and a full tape; its padding ends within this many.
        private static final int MESSAGE_LIMIT = 512;
        private static final int INNER = 54, OUTER = 92;
        private static final int[] START = {
            0x6a09e667, 0xbb67ae85, 0x3c6ef372, 0xa54ff53a, 0x510e527f, 0x9b05688c, 0x1f83d9ab, 0x5be0cd19
        };
        private static final int[] ROUND = {
            0x428a2f98, 0x71374491, 0xb5c0fbcf, 0xe9b5dba5, 0x3956c25b, 0x59f111f1, 0x923f82a4, 0xab1c5ed5,
            0xd807aa98, 0x12835b01, 0x243185be, 0x550c7dc3, 0x72be5d74, 0x80deb1fe, 0x9bdc06a7, 0xc19bf174,
            0xe49b69c1, 0xefbe4786, 0x0fc19dc6, 0x240ca1cc, 0x2de92c6f, 0x4a7484aa, 0x5cb0a9dc, 0x76f988da,
            0x983e5152, 0xa831c66d, 0xb00327c8, 0xbf597fc7, 0xc6e00bf3, 0xd5a79147, 0x06ca6351, 0x14292967,
            0x27b70a85, 0x2e1b2138, 0x4d2c6dfc, 0x53380d13, 0x650a7354, 0x766a0abb, 0x81c2c92e, 0x92722c85,
            0xa2bfe8a1, 0xa81a664b, 0xc24b8b70, 0xc76c51a3, 0xd192e819, 0xd6990624, 0xf40e3585, 0x106aa070,
            0x19a4c116, 0x1e376c08, 0x2748774c, 0x34b0bcb5, 0x391c0cb3, 0x4ed8aa4a, 0x5b9cca4f, 0x682e6ff3,
            0x748f82ee, 0x78a5636f, 0x84c87814, 0x8cc70208, 0x90befffa, 0xa4506ceb, 0xbef9a3f7, 0xc67178f2
        };

        private final Bytes message = new Bytes(MESSAGE_LIMIT);
        private final int[] sum = new int[8];
        private final int[] words = new int[BLOCK];
        private final byte[] innerHash = new byte[WIDTH];

        Bytes begin() {
            message.size = 0;
            return message;
        }

        Bytes beginKeyed(byte[] secretKey) {
            message.size = 0;
            putPad(secretKey, INNER);
            return message;
        }

        void finishKeyed(byte[] secretKey, byte[] to) {
            finish(innerHash);
            message.size = 0;
            putPad(secretKey, OUTER);
            message.putAll(innerHash, WIDTH);
            finish(to);
        }

        void finish(byte[] to) {
            padMessage();
            System.arraycopy(START, 0, sum, 0, sum.length);
            for (int at = 0; at < message.size; at += BLOCK) {
                spreadBlock(at);
                mixBlock();
            }
            for (int i = 0; i < sum.length; i++) {
                to[4 * i] = (byte) (sum[i] >>> 24);
                to[4 * i + 1] = (byte) (sum[i] >>> 16);
                to[4 * i + 2] = (byte) (sum[i] >>> 8);
                to[4 * i + 3] = (byte) sum[i];
            }
        }

        private void putPad(byte[] secretKey, int mask) {
            for (int i = 0; i < BLOCK; i++) {
                message.put((i < WIDTH ? secretKey[i] : 0) ^ mask);
            }
        }

        private void padMessage() {
            int bits = message.size * 8;
            message.put(128);
            // Of the eight bytes that tell the length six are 0, as no message here has 8192 bytes.
            int zeros = Math.floorMod(BLOCK - 8 - message.size, BLOCK) + 6;
            for (int i = 0; i < zeros; i++) {
                message.put(0);
            }
            message.put(bits >>> 8);
            message.put(bits);
        }

        private void spreadBlock(int at) {
            for (int i = 0; i < 16; i++) {
                words[i] = message.intAt(at + 4 * i);
            }
            for (int i = 16; i < BLOCK; i++) {
                int x = words[i - 15];
                int y = words[i - 2];
                int low = (x >>> 7 | x << 25) ^ (x >>> 18 | x << 14) ^ x >>> 3;
                int high = (y >>> 17 | y << 15) ^ (y >>> 19 | y << 13) ^ y >>> 10;
                words[i] = words[i - 16] + low + words[i - 7] + high;
            }
        }

        private void mixBlock() {
            int a = sum[0];
            int b = sum[1];
            int c = sum[2];
            int d = sum[3];
            int e = sum[4];
            int f = sum[5];
            int g = sum[6];
            int h = sum[7];
            for (int i = 0; i < BLOCK; i++) {
                int turnedE = (e >>> 6 | e << 26) ^ (e >>> 11 | e << 21) ^ (e >>> 25 | e << 7);
                int one = h + turnedE + (e & f ^ ~e & g) + ROUND[i] + words[i];
                int turnedA = (a >>> 2 | a << 30) ^ (a >>> 13 | a << 19) ^ (a >>> 22 | a << 10);
                int two = turnedA + (a & b ^ a & c ^ b & c);
                h = g;
                g = f;
                f = e;
                e = d + one;
                d = c;
                c = b;
                b = a;
                a = one + two;
            }
            sum[0] += a;
            sum[1] += b;
            sum[2] += c;
            sum[3] += d;
            sum[4] += e;
            sum[5] += f;
            sum[6] += g;
            sum[7] += h;
        }
    }

    /** All that needs THE SEED: blobs and the marks of quotes. */
    private static final class Secret {
        static final int QUOTES = 81;
        static final int POLICY_AT = 4;
        static final int AUTH_AT = 36;
        static final int DATA_AT = 69;
        static final int BARE_BLOB = 101;
        private static final int COVERS = 69;
        private static final int MARKS = 77;
        private static final int LENGTH_AT = 68;

        private final Hasher hasher;
        private final byte[] seed = new byte[WIDTH];
        private final byte[] derived = new byte[WIDTH];
        private final byte[] mark = new byte[WIDTH];
        int blobsMade;

        Secret(Hasher hasher, int number) {
            this.hasher = hasher;
            Bytes message = hasher.begin();
            message.put(83);
            message.put(69);
            message.put(69);
            message.put(68);
            message.putInt(number);
            hasher.finish(seed);
        }

        void renew() {
            hasher.begin().putAll(seed, WIDTH);
            hasher.finish(seed);
        }

        void sign(Bytes told) {
            hasher.beginKeyed(seed).put(QUOTES);
            hasher.finishKeyed(seed, derived);
            findMark(told.held, told.size);
            told.putAll(mark, WIDTH);
        }

        void wrap(Bytes data, byte[] auth, byte[] policy, Bytes blob) {
            blob.size = 0;
            blob.putInt(blobsMade);
            blob.putAll(policy, WIDTH);
            blob.putAll(auth, WIDTH);
            blob.put(data.size);
            blob.putAll(data.held, data.size);
            derive(COVERS, blobsMade);
            cover(blob.held, blob.size);
            derive(MARKS, blobsMade);
            findMark(blob.held, blob.size);
            blob.putAll(mark, WIDTH);
            blobsMade++;
        }

        /** Uncovers a blob where it lies, if it is a good one. */
        boolean unwrap(Bytes blob) {
            int data = blob.size - BARE_BLOB;
            if (data < 0 || data > DATA_LIMIT) {
                return false;
            }
            byte[] row = blob.held;
            int number = blob.intAt(0);
            derive(MARKS, number);
            findMark(row, DATA_AT + data);
            if (!sameBytes(mark, row, DATA_AT + data)) {
                return false;
            }
            derive(COVERS, number);
            cover(row, DATA_AT + data);
            return (row[LENGTH_AT] & 255) == data;
        }

        private void derive(int label, int number) {
            Bytes message = hasher.beginKeyed(seed);
            message.put(label);
            message.putInt(number);
            hasher.finishKeyed(seed, derived);
        }

        private void findMark(byte[] row, int n) {
            hasher.beginKeyed(derived).putAll(row, n);
            hasher.finishKeyed(derived, mark);
        }

        private void cover(byte[] row, int end) {
            for (int i = AUTH_AT; i < end; i++) {
                int place = i - AUTH_AT;
                if (place % WIDTH == 0) {
                    Bytes message = hasher.begin();
                    message.putAll(derived, WIDTH);
                    message.put(place / WIDTH);
                    hasher.finish(mark);
                }
                row[i] ^= mark[place % WIDTH];
            }
        }
    }

    private static final class Registers {
        static final int HOW_MANY = 8;

        private final byte[] row = new byte[HOW_MANY * WIDTH];
        private final byte[] one = new byte[WIDTH];
        int changes;

        void mixIn(int r, byte[] told, Hasher hasher) {
            System.arraycopy(row, r * WIDTH, one, 0, WIDTH);
            Bytes message = hasher.begin();
            message.putAll(one, WIDTH);
            message.putAll(told, WIDTH);
            hasher.finish(one);
            System.arraycopy(one, 0, row, r * WIDTH, WIDTH);
            changes++;
        }

        void zero(int r) {
            for (int i = 0; i < WIDTH; i++) {
                row[r * WIDTH + i] = 0;
            }
            // A reset counts as a change even where all was 0: the document names the call, not the bytes.
            changes++;
        }

        void measure(int set, Hasher hasher, byte[] to) {
            Bytes message = hasher.begin();
            for (int r = 0; r < HOW_MANY; r++) {
                if ((set >>> r & 1) != 0) {
                    System.arraycopy(row, r * WIDTH, one, 0, WIDTH);
                    message.putAll(one, WIDTH);
                }
            }
            hasher.finish(to);
        }
    }

    private static final class Session {
        static final int ANY_CODE = 0;

        final byte[] digest = new byte[WIDTH];
        boolean isOpen;
        boolean asksAuth;
        int code;
        private boolean asksRegisters;
        private int changesThen;
        private boolean asksTime;
        private int latest;

        void begin() {
            Arrays.fill(digest, (byte) 0);
            isOpen = true;
            asksAuth = false;
            code = ANY_CODE;
            asksRegisters = false;
            asksTime = false;
        }

        /** The message of a new digest as far as all steps have it: the old digest and the step's byte. */
        Bytes startStep(Hasher hasher, int step) {
            Bytes message = hasher.begin();
            message.putAll(digest, WIDTH);
            message.put(step);
            return message;
        }

        void bindRegisters(int changes) {
            if (!asksRegisters) {
                asksRegisters = true;
                changesThen = changes;
            }
        }

        void bindTime(int time) {
            latest = asksTime ? Math.min(latest, time) : time;
            asksTime = true;
        }

        /** Whether all conditions but that of the auth are as told. */
        boolean holds(int changes, int usedFor, int clock) {
            return (!asksRegisters || changes == changesThen)
                && (code == ANY_CODE || code == usedFor)
                && (!asksTime || clock <= latest);
        }
    }

    /** What objects and values have alike. */
    private static final class Thing {
        final byte[] auth = new byte[WIDTH];
        final byte[] policy = new byte[WIDTH];
        final Bytes data;
        boolean present;

        Thing(int limit) {
            data = new Bytes(limit);
        }
    }

    private static final class Value {
        private static final int COUNTER_SIZE = 8;

        final Thing thing = new Thing(VALUE_LIMIT);
        int kind;
        boolean written;
        boolean isShut;
        long number;

        static boolean mayBe(int kind, int size) {
            return kind == COUNTER || kind == CHAIN || kind == PLAIN && size >= 1 && size <= VALUE_LIMIT;
        }

        void begin(int newKind, int size) {
            thing.present = true;
            thing.data.size = newKind == PLAIN ? size : newKind == COUNTER ? COUNTER_SIZE : WIDTH;
            Arrays.fill(thing.data.held, (byte) 0);
            kind = newKind;
            written = false;
            isShut = false;
            number = 0;
        }

        void spellNumber() {
            thing.data.size = 0;
            thing.data.putInt((int) (number >>> 32));
            thing.data.putInt((int) number);
        }
    }
}
