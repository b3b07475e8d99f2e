import java.util.Arrays;
import java.util.TreeMap;

/**
 * The document written down a second time, with the Java library's maps, hash and MAC and without a thought
 * for room: what random runs compare the class with.
 */
final class Model {
    private static final byte[] ZERO = new byte[32];

    private static final class Policy {
        byte[] digest = ZERO;
        Long changes;
        boolean auth;
        Integer code;
        Integer time;
    }

    private static final class Kept {
        byte[] auth;
        byte[] policy;
        byte[] data;
        int kind;
        boolean unwritten = true;
        boolean shut;
        long number;
    }

    private byte[] tape = {};
    private byte[] out = {};
    private byte[] seed;
    private byte[] key = Bench.h();
    private byte[] owner = Bench.h();
    private final byte[][] registers = new byte[8][32];
    private long changes;
    private final TreeMap<Integer, Policy> sessions = new TreeMap<>();
    private final TreeMap<Integer, Kept> objects = new TreeMap<>();
    private final TreeMap<Integer, Kept> values = new TreeMap<>();
    private long greatest;
    private int clock;
    private int restarts;
    private int failures;
    private int blobs;

    Model(int number) {
        seed = Bench.seedOf(number);
    }

    byte[] out() {
        return out;
    }

    private byte[] takeTape() {
        byte[] was = tape;
        tape = new byte[0];
        return was;
    }

    private int tell(byte[] bytes) {
        out = bytes;
        return bytes.length;
    }

    private byte[] stateOf(int set) {
        byte[] all = {};
        for (int r = 0; r < 8; r++) {
            if ((set & 1 << r) != 0) {
                all = Bench.cat(all, registers[r]);
            }
        }
        return Bench.h(all);
    }

    private int byKey(byte[] auth) {
        if (failures > 3) {
            return Bench.LOCKED;
        }
        if (Arrays.equals(key, auth)) {
            return 0;
        }
        failures++;
        return Bench.DENIED;
    }

    private int by(Kept thing, int by, int code) {
        if (by == -1) {
            return byKey(thing.auth);
        }
        Policy p = sessions.get(by);
        if (p == null) {
            return Bench.REFUSED;
        }
        boolean wrong = Arrays.equals(thing.policy, ZERO) || !Arrays.equals(thing.policy, p.digest);
        wrong |= p.changes != null && p.changes != changes;
        wrong |= p.code != null && p.code != code;
        wrong |= p.time != null && clock > p.time;
        if (wrong) {
            return Bench.WRONG;
        }
        int answer = p.auth ? byKey(thing.auth) : 0;
        if (answer == 0) {
            sessions.remove(by);
        }
        return answer;
    }

    int feed(int a, int b, int c, int d, int e) {
        if (tape.length + 20 > 400) {
            return Bench.FULL;
        }
        tape = Bench.cat(tape, Bench.four(a), Bench.four(b), Bench.four(c), Bench.four(d), Bench.four(e));
        return tape.length;
    }

    int end(int n) {
        if (n < 0 || n > tape.length) {
            return Bench.REFUSED;
        }
        tape = Arrays.copyOf(tape, n);
        return n;
    }

    int octet(int i) {
        return i == -1 ? out.length : i >= 0 && i < out.length ? Byte.toUnsignedInt(out[i]) : Bench.NONE;
    }

    int back() {
        if (tape.length + out.length > 400) {
            return Bench.FULL;
        }
        tape = Bench.cat(tape, out);
        return tape.length;
    }

    int hash() {
        return tell(Bench.h(takeTape()));
    }

    int key() {
        key = Bench.h(takeTape());
        return 0;
    }

    int extend(int r) {
        byte[] told = takeTape();
        if (r < 0 || r > 7) {
            return Bench.REFUSED;
        }
        registers[r] = Bench.h(registers[r], Bench.h(told));
        changes++;
        return 0;
    }

    int reset(int r) {
        if (r < 6 || r > 7) {
            return Bench.REFUSED;
        }
        registers[r] = ZERO;
        changes++;
        return 0;
    }

    int state(int set) {
        return tell(stateOf(set));
    }

    int quote(int set) {
        byte[] told = takeTape();
        if (told.length > 32) {
            return Bench.REFUSED;
        }
        byte[] all = Bench.cat(Bench.one(81), Bench.one(set), stateOf(set), Bench.four(clock), Bench.four(restarts), told);
        return tell(Bench.cat(all, Bench.mac(Bench.mac(seed, Bench.one(81)), all)));
    }

    int open(int s) {
        if (s < 0 || s > 3) {
            return Bench.REFUSED;
        }
        sessions.put(s, new Policy());
        return 0;
    }

    int policyState(int s, int set) {
        Policy p = sessions.get(s);
        if (p == null) {
            return Bench.REFUSED;
        }
        p.digest = Bench.h(p.digest, Bench.one(1), Bench.one(set), stateOf(set));
        p.changes = p.changes == null ? Long.valueOf(changes) : p.changes;
        return 0;
    }

    int policyAuth(int s) {
        Policy p = sessions.get(s);
        if (p == null) {
            return Bench.REFUSED;
        }
        p.digest = Bench.h(p.digest, Bench.one(2));
        p.auth = true;
        return 0;
    }

    int policyCode(int s, int code) {
        Policy p = sessions.get(s);
        if (p == null || p.code != null || code < 1 || code > 6) {
            return Bench.REFUSED;
        }
        p.digest = Bench.h(p.digest, Bench.one(3), Bench.one(code));
        p.code = code;
        return 0;
    }

    int policyTime(int s, int time) {
        Policy p = sessions.get(s);
        if (p == null) {
            return Bench.REFUSED;
        }
        p.digest = Bench.h(p.digest, Bench.one(4), Bench.four(time));
        p.time = p.time == null || time < p.time ? Integer.valueOf(time) : p.time;
        return 0;
    }

    int policyOr(int s) {
        byte[] told = takeTape();
        Policy p = sessions.get(s);
        if (p == null || told.length < 64 || told.length > 256 || told.length % 32 != 0) {
            return Bench.REFUSED;
        }
        for (int i = 0; i < told.length; i += 32) {
            if (Arrays.equals(p.digest, Arrays.copyOfRange(told, i, i + 32))) {
                p.digest = Bench.h(ZERO, Bench.one(5), told);
                return 0;
            }
        }
        return Bench.WRONG;
    }

    int digest(int s) {
        Policy p = sessions.get(s);
        return p == null ? Bench.REFUSED : tell(p.digest);
    }

    int seal(int s) {
        byte[] told = takeTape();
        if (s != -1 && !sessions.containsKey(s) || told.length > 128) {
            return Bench.REFUSED;
        }
        byte[] policy = s == -1 ? ZERO : sessions.get(s).digest;
        return tell(Bench.blob(seed, blobs++, policy, key, told.length, told));
    }

    int load() {
        byte[] told = takeTape();
        int n = told.length - 101;
        if (n < 0 || n > 128) {
            return Bench.BROKEN;
        }
        byte[] number = Arrays.copyOf(told, 4);
        byte[] e = Bench.mac(seed, Bench.one(69), number);
        byte[] clear = Arrays.copyOfRange(told, 36, 69 + n);
        for (int i = 0; i < clear.length; i++) {
            clear[i] ^= Bench.h(e, Bench.one(i / 32))[i % 32];
        }
        byte[] mark = Bench.mac(Bench.mac(seed, Bench.one(77), number), Arrays.copyOf(told, 69 + n));
        if (!Arrays.equals(mark, Arrays.copyOfRange(told, 69 + n, told.length)) || Byte.toUnsignedInt(clear[32]) != n) {
            return Bench.BROKEN;
        }
        for (int i = 0; i < 4; i++) {
            if (!objects.containsKey(i)) {
                Kept thing = new Kept();
                thing.policy = Arrays.copyOfRange(told, 4, 36);
                thing.auth = Arrays.copyOf(clear, 32);
                thing.data = Arrays.copyOfRange(clear, 33, clear.length);
                objects.put(i, thing);
                return i;
            }
        }
        return Bench.FULL;
    }

    int unseal(int object, int by) {
        Kept thing = objects.get(object);
        if (thing == null) {
            return Bench.NONE;
        }
        int answer = by(thing, by, 1);
        return answer == 0 ? tell(thing.data) : answer;
    }

    int flush(int object) {
        return objects.remove(object) == null ? Bench.NONE : 0;
    }

    int define(int value, int kind, int size, int s) {
        byte[] told = takeTape();
        boolean sized = kind != 0 || size > 0 && size < 65;
        if (value < 0 || value > 7 || kind < 0 || kind > 2 || !sized || s != -1 && !sessions.containsKey(s)) {
            return Bench.REFUSED;
        }
        if (values.containsKey(value)) {
            return Bench.NONE;
        }
        int answer = byKey(owner);
        if (answer == 0) {
            Kept thing = new Kept();
            thing.auth = Bench.h(told);
            thing.policy = s == -1 ? ZERO : sessions.get(s).digest;
            thing.kind = kind;
            thing.data = new byte[kind == 0 ? size : kind == 1 ? 8 : 32];
            values.put(value, thing);
        }
        return answer;
    }

    int undefine(int value) {
        if (!values.containsKey(value)) {
            return Bench.NONE;
        }
        int answer = byKey(owner);
        if (answer == 0) {
            values.remove(value);
        }
        return answer;
    }

    int write(int value, int at, int by) {
        byte[] told = takeTape();
        Kept thing = values.get(value);
        if (thing == null || thing.kind != 0) {
            return Bench.NONE;
        }
        if (at < 0 || (long) at + told.length > thing.data.length) {
            return Bench.REFUSED;
        }
        if (thing.shut) {
            return Bench.FULL;
        }
        int answer = by(thing, by, 2);
        if (answer == 0) {
            System.arraycopy(told, 0, thing.data, at, told.length);
            thing.unwritten = false;
        }
        return answer;
    }

    int count(int value, int by) {
        Kept thing = values.get(value);
        if (thing == null || thing.kind != 1) {
            return Bench.NONE;
        }
        if (thing.shut) {
            return Bench.FULL;
        }
        int answer = by(thing, by, 3);
        if (answer != 0) {
            return answer;
        }
        thing.number = thing.unwritten ? greatest + 1 : thing.number + 1;
        thing.unwritten = false;
        greatest = Math.max(greatest, thing.number);
        thing.data = Bench.cat(Bench.four((int) (thing.number >> 32)), Bench.four((int) thing.number));
        return (int) thing.number & Integer.MAX_VALUE;
    }

    int chain(int value, int by) {
        byte[] told = takeTape();
        Kept thing = values.get(value);
        if (thing == null || thing.kind != 2) {
            return Bench.NONE;
        }
        if (thing.shut) {
            return Bench.FULL;
        }
        int answer = by(thing, by, 4);
        if (answer == 0) {
            thing.data = Bench.h(thing.data, told);
            thing.unwritten = false;
        }
        return answer;
    }

    int read(int value, int by) {
        Kept thing = values.get(value);
        if (thing == null) {
            return Bench.NONE;
        }
        if (thing.unwritten) {
            return Bench.FULL;
        }
        int answer = by(thing, by, 5);
        return answer == 0 ? tell(thing.data.clone()) : answer;
    }

    int shut(int value, int by) {
        Kept thing = values.get(value);
        if (thing == null) {
            return Bench.NONE;
        }
        int answer = by(thing, by, 6);
        thing.shut |= answer == 0;
        return answer;
    }

    int own() {
        byte[] told = takeTape();
        int answer = byKey(owner);
        owner = answer == 0 ? Bench.h(told) : owner;
        return answer;
    }

    int unlock() {
        if (Arrays.equals(key, owner)) {
            failures = 0;
            return 0;
        }
        failures++;
        return Bench.DENIED;
    }

    int clear() {
        int answer = byKey(owner);
        if (answer == 0) {
            seed = Bench.h(seed);
            values.clear();
            objects.clear();
            owner = Bench.h();
        }
        return answer;
    }

    int tick(int n) {
        if (n < 0 || n > 100000 || (long) clock + n > 2000000000L) {
            return Bench.REFUSED;
        }
        for (int i = 0; i < n; i++) {
            clock++;
            if (clock % 100 == 0 && failures > 0) {
                failures--;
            }
        }
        return clock;
    }

    int restart() {
        for (int r = 0; r < 8; r++) {
            registers[r] = ZERO;
        }
        sessions.clear();
        objects.clear();
        for (Kept thing : values.values()) {
            thing.shut = false;
        }
        return ++restarts;
    }

    int look(int what) {
        int[] all = {failures, clock, restarts, blobs, objects.size(), sessions.size(), values.size(), tape.length};
        return what >= 0 && what < 8 ? all[what] : Bench.REFUSED;
    }
}
