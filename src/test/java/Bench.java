import java.nio.ByteBuffer;
import java.nio.charset.StandardCharsets;
import java.security.GeneralSecurityException;
import java.security.MessageDigest;
import javax.crypto.Mac;
import javax.crypto.spec.SecretKeySpec;

/** A vault with what tests do to it again and again; and the library's hash and MAC, to compare with. */
final class Bench {
    static final int REFUSED = -1, NONE = -2, FULL = -3, DENIED = -4, LOCKED = -5, BROKEN = -6, WRONG = -7;
    static final int[] FAR = {Integer.MIN_VALUE, Integer.MIN_VALUE + 1, -1000, -3, -2, 1000, Integer.MAX_VALUE};

    /** The least and the greatest number, which no call that names a thing takes. */
    static final int LEAST = Integer.MIN_VALUE, MOST = Integer.MAX_VALUE;

    final MeasuredVault vault;

    Bench(int seed) {
        vault = new MeasuredVault(seed);
    }

    static byte[] text(String s) {
        return s.getBytes(StandardCharsets.ISO_8859_1);
    }

    static byte[] four(int n) {
        return ByteBuffer.allocate(4).putInt(n).array();
    }

    static byte[] one(int n) {
        return new byte[] {(byte) n};
    }

    static byte[] cat(byte[]... parts) {
        int size = 0;
        for (byte[] part : parts) {
            size += part.length;
        }
        ByteBuffer all = ByteBuffer.allocate(size);
        for (byte[] part : parts) {
            all.put(part);
        }
        return all.array();
    }

    /** Bytes that differ from place to place, and have the highest bit now and then. */
    static byte[] row(int n) {
        byte[] made = new byte[n];
        for (int i = 0; i < n; i++) {
            made[i] = (byte) (i * 37 + 11);
        }
        return made;
    }

    static byte[] h(byte[]... parts) {
        try {
            return MessageDigest.getInstance("SHA-256").digest(cat(parts));
        } catch (GeneralSecurityException e) {
            throw new IllegalStateException(e);
        }
    }

    static byte[] mac(byte[] key, byte[]... parts) {
        try {
            Mac mac = Mac.getInstance("HmacSHA256");
            mac.init(new SecretKeySpec(key, "HmacSHA256"));
            return mac.doFinal(cat(parts));
        } catch (GeneralSecurityException e) {
            throw new IllegalStateException(e);
        }
    }

    static byte[] seedOf(int number) {
        return h(text("SEED"), four(number));
    }

    /** The blob of the document, made by the library's functions; told is what stands for d's length. */
    static byte[] blob(byte[] seed, int number, byte[] policy, byte[] auth, int told, byte[] data) {
        byte[] n = four(number);
        byte[] e = mac(seed, one(69), n);
        byte[] covered = cat(auth, one(told), data);
        for (int i = 0; i < covered.length; i++) {
            covered[i] ^= h(e, one(i / 32))[i % 32];
        }
        byte[] mark = mac(mac(seed, one(77), n), n, policy, covered);
        return cat(n, policy, covered, mark);
    }

    /** Puts bytes behind the tape. */
    Bench tape(byte[] bytes) {
        int before = vault.look(7);
        for (int i = 0; i < bytes.length; i += 20) {
            ByteBuffer part = ByteBuffer.allocate(20);
            part.put(bytes, i, Math.min(20, bytes.length - i));
            part.rewind();
            vault.feed(part.getInt(), part.getInt(), part.getInt(), part.getInt(), part.getInt());
        }
        vault.end(before + bytes.length);
        return this;
    }

    Bench tape(String s) {
        return tape(text(s));
    }

    /** THE KEY becomes that of a word; what was on the tape is gone. */
    Bench key(String s) {
        vault.end(0);
        tape(s);
        vault.key();
        return this;
    }

    byte[] out() {
        byte[] told = new byte[Math.max(0, vault.octet(-1))];
        for (int i = 0; i < told.length; i++) {
            told[i] = (byte) vault.octet(i);
        }
        return told;
    }

    byte[] digest(int s) {
        vault.digest(s);
        return out();
    }

    byte[] state(int set) {
        vault.state(set);
        return out();
    }

    /** What look tells of 0 to 7. */
    void looks(String when, int... want) {
        for (int what = 0; what < want.length; what++) {
            Check.due(when + ": look(" + what + ")", want[what], vault.look(what));
        }
    }

    /** Seals a word under a session's digest and loads it again; answers the object's number. */
    int sealed(String word, int s) {
        vault.end(0);
        tape(word);
        vault.seal(s);
        vault.back();
        return vault.load();
    }

    /** Brings FAILURES up by wrong tries at the owner's; THE KEY is then that of the word "nobody". */
    Bench fail(int times) {
        key("nobody");
        for (int i = 0; i < times; i++) {
            vault.unlock();
        }
        return this;
    }

    /**
     * Things under one AUTH, that of the word "things", and the POLICY of a session (-1: none): object 0 of three
     * bytes, a PLAIN value 0 of four that are written, a COUNTER 1, a CHAIN 2. The owner is as at first, and THE KEY
     * is the things' AUTH then.
     */
    Bench things(int s) {
        key("");
        for (int kind = 0; kind < 3; kind++) {
            tape("things");
            vault.define(kind, kind, 4, s);
        }
        key("things").sealed("abc", s);
        tape("wxyz");
        vault.write(0, 0, -1);
        return this;
    }

    /** The call of a code, on the thing of the right kind. */
    static int use(MeasuredVault v, int code, int by) {
        switch (code) {
            case 1: return v.unseal(0, by);
            case 2: return v.write(0, 0, by);
            case 3: return v.count(1, by);
            case 4: return v.chain(2, by);
            case 5: return v.read(0, by);
            default: return v.shut(0, by);
        }
    }

    /** What the first use by a code answers if it is good. */
    static int good(int code) {
        return new int[] {3, 0, 1, 0, 4, 0}[code - 1];
    }
}
