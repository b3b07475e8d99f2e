/** Promises 19 to 22: seal, load, unseal, flush; and what BY asks. */
public final class SealedTest {
    private static final byte[] ZERO = new byte[32];

    private SealedTest() {
    }

    public static void main(String[] args) {
        promise19Seal();
        promise19Policy();
        promise19Refused();
        promise20Load();
        promise20Broken();
        promise20Full();
        promise21Unseal();
        promise21None();
        promise22Flush();
        byTheKey();
        bySession();
        byAnotherNumber();
        byAThingWithoutPolicy();
        Check.finish("SealedTest");
    }

    private static void promise19Seal() {
        Bench b = new Bench(12);
        byte[] auth = Bench.h(Bench.text("k"));
        int made = 0;
        for (int n : new int[] {0, 1, 31, 32, 127, 128}) {
            b = n == 127 ? new Bench(12) : b;
            made = n == 127 ? 0 : made;
            b.key("k").tape(Bench.row(n));
            Check.due("seal of " + n, 101 + n, b.vault.seal(-1));
            Check.due("the tape is empty", 0, b.vault.look(7));
            Check.due("blob " + made, Bench.blob(Bench.seedOf(12), made, ZERO, auth, n, Bench.row(n)), b.out());
            made++;
            Check.due("blobs made", made, b.vault.look(3));
        }
    }

    private static void promise19Policy() {
        Bench b = new Bench(12);
        b.vault.open(3);
        b.vault.policyAuth(3);
        byte[] policy = b.digest(3);
        b.tape("data");
        Check.due("seal(3)", 105, b.vault.seal(3));
        Check.due("a blob", Bench.blob(Bench.seedOf(12), 0, policy, Bench.h(), 4, Bench.text("data")), b.out());
        Check.due("the session stays", policy, b.digest(3));
        b.vault.open(2);
        b.tape("data");
        Check.due("seal(2)", 105, b.vault.seal(2));
        Check.due("a DIGEST of 0", Bench.blob(Bench.seedOf(12), 1, ZERO, Bench.h(), 4, Bench.text("data")), b.out());
    }

    private static void promise19Refused() {
        Bench b = new Bench(12);
        b.vault.hash();
        b.tape(Bench.row(129));
        Check.due("seal of 129", Bench.REFUSED, b.vault.seal(-1));
        Check.due("the tape is empty", 0, b.vault.look(7));
        b.tape(Bench.row(400));
        Check.due("seal of 400", Bench.REFUSED, b.vault.seal(-1));
        for (int s : new int[] {0, 3, 4, -2, Integer.MIN_VALUE, Integer.MAX_VALUE}) {
            b.tape("x");
            Check.due("seal(" + s + ")", Bench.REFUSED, b.vault.seal(s));
            Check.due("the tape is empty", 0, b.vault.look(7));
        }
        Check.due("no blob was made", 0, b.vault.look(3));
        Check.due("OUT stays", Bench.h(), b.out());
    }

    private static void promise20Load() {
        Bench b = new Bench(12);
        byte[] seed = Bench.seedOf(12);
        for (int i = 0; i < 4; i++) {
            b.tape(Bench.blob(seed, 0x91827304 * i, ZERO, Bench.h(), i, Bench.row(i)));
            Check.due("load", i, b.vault.load());
            Check.due("objects", i + 1, b.vault.look(4));
            Check.due("the tape is empty", 0, b.vault.look(7));
        }
        b.vault.flush(2);
        b.vault.flush(1);
        b.tape(Bench.blob(seed, -1, ZERO, Bench.h(), 128, Bench.row(128)));
        Check.due("the least that is free", 1, b.vault.load());
        Check.due("unseal", 128, b.vault.unseal(1, -1));
        Check.due("the data", Bench.row(128), b.out());
        b.tape(Bench.blob(seed, 5, ZERO, Bench.h(Bench.text("no")), 1, Bench.row(1)));
        Check.due("the last that is free", 2, b.vault.load());
        Check.due("with its own AUTH", Bench.DENIED, b.vault.unseal(2, -1));
        Check.due("blobs made", 0, b.vault.look(3));
    }

    private static void promise20Broken() {
        byte[] good = Bench.blob(Bench.seedOf(12), 3, ZERO, Bench.h(), 5, Bench.row(5));
        for (int i = 0; i < good.length; i++) {
            Bench b = new Bench(12);
            byte[] bad = good.clone();
            bad[i] ^= (byte) (1 << i % 8);
            b.tape(bad);
            Check.due("byte " + i + " is another", Bench.BROKEN, b.vault.load());
            Check.due("the tape is empty", 0, b.vault.look(7));
            Check.due("no object", 0, b.vault.look(4));
        }
        for (int n = 0; n < good.length; n++) {
            Bench b = new Bench(12);
            b.tape(java.util.Arrays.copyOf(good, n));
            Check.due("only " + n + " bytes", Bench.BROKEN, b.vault.load());
        }
        for (int told : new int[] {0, 4, 6, 128, 255}) {
            Bench b = new Bench(12);
            b.tape(Bench.blob(Bench.seedOf(12), 3, ZERO, Bench.h(), told, Bench.row(5)));
            Check.due("5 bytes, told as " + told, Bench.BROKEN, b.vault.load());
        }
        Bench b = new Bench(12);
        b.tape(Bench.blob(Bench.seedOf(12), 3, ZERO, Bench.h(), 129, Bench.row(129)));
        Check.due("more than a blob has", Bench.BROKEN, b.vault.load());
        b.tape(Bench.blob(Bench.seedOf(13), 3, ZERO, Bench.h(), 5, Bench.row(5)));
        Check.due("of another module", Bench.BROKEN, b.vault.load());
        b.tape(good).tape("x");
        Check.due("one byte more", Bench.BROKEN, b.vault.load());
        b.tape(new byte[400]);
        Check.due("a full tape", Bench.BROKEN, b.vault.load());
        b.tape(good);
        Check.due("the good one", 0, b.vault.load());
    }

    private static void promise20Full() {
        Bench b = new Bench(12);
        for (int i = 0; i < 4; i++) {
            b.sealed("x", -1);
        }
        Check.due("a fifth", Bench.FULL, b.sealed("x", -1));
        Check.due("the tape is empty", 0, b.vault.look(7));
        b.tape("x");
        Check.due("BROKEN comes first", Bench.BROKEN, b.vault.load());
        Check.due("objects", 4, b.vault.look(4));
        b.vault.flush(3);
        Check.due("one is free", 3, b.sealed("x", -1));
    }

    private static void promise21Unseal() {
        Bench b = new Bench(12);
        for (int n : new int[] {0, 1, 64, 128}) {
            b.vault.key();
            b.tape(Bench.row(n));
            b.vault.seal(-1);
            b.vault.back();
            b.vault.load();
            b.tape("stays");
            Check.due("unseal of " + n, n, b.vault.unseal(0, -1));
            Check.due("the data", Bench.row(n), b.out());
            Check.due("again", n, b.vault.unseal(0, -1));
            Check.due("the tape stays", 5, b.vault.look(7));
            b.vault.flush(0);
        }
    }

    private static void promise21None() {
        Bench b = new Bench(12);
        b.sealed("x", -1);
        b.fail(4);
        byte[] out = b.out();
        for (int object : new int[] {1, 3, 4, -1, Integer.MIN_VALUE, Integer.MAX_VALUE}) {
            for (int by : new int[] {-2, -1, 0, 4}) {
                Check.due("unseal(" + object + ", " + by + ")", Bench.NONE, b.vault.unseal(object, by));
            }
        }
        Check.due("OUT stays", out, b.out());
        Check.due("no failure", 4, b.vault.look(0));
    }

    private static void promise22Flush() {
        Bench b = new Bench(12);
        b.sealed("a", -1);
        b.sealed("b", -1);
        Check.due("flush(0)", 0, b.vault.flush(0));
        Check.due("objects", 1, b.vault.look(4));
        Check.due("it is free", Bench.NONE, b.vault.flush(0));
        Check.due("nothing to unseal", Bench.NONE, b.vault.unseal(0, -1));
        Check.due("the other stays", 1, b.vault.unseal(1, -1));
        for (int object : new int[] {2, 3, 4, -1, Integer.MIN_VALUE, Integer.MAX_VALUE}) {
            Check.due("flush(" + object + ")", Bench.NONE, b.vault.flush(object));
        }
        b.fail(4);
        Check.due("flush asks for no key", 0, b.vault.flush(1));
    }

    private static void byTheKey() {
        Bench b = new Bench(12);
        b.key("right");
        b.sealed("abc", -1);
        b.key("wrong");
        byte[] out = b.out();
        for (int i = 1; i <= 4; i++) {
            Check.due("another KEY", Bench.DENIED, b.vault.unseal(0, -1));
            Check.due("failures", i, b.vault.look(0));
        }
        Check.due("LOCKED", Bench.LOCKED, b.vault.unseal(0, -1));
        b.key("right");
        Check.due("LOCKED for the right one", Bench.LOCKED, b.vault.unseal(0, -1));
        Check.due("no more failures", 4, b.vault.look(0));
        Check.due("OUT stays", out, b.out());
        b.vault.tick(100);
        Check.due("three failures do not lock", 3, b.vault.unseal(0, -1));
        Check.due("a good one takes no failure away", 3, b.vault.look(0));
    }

    private static void bySession() {
        Bench b = new Bench(12);
        b.vault.open(0);
        b.vault.policyCode(0, 1);
        b.sealed("abc", 0);
        Check.due("CLOSED", Bench.REFUSED, b.vault.unseal(0, 1));
        b.vault.open(1);
        Check.due("another DIGEST", Bench.WRONG, b.vault.unseal(0, 1));
        b.vault.policyCode(1, 2);
        Check.due("another policy", Bench.WRONG, b.vault.unseal(0, 1));
        Check.due("both stay open", 2, b.vault.look(5));
        Check.due("no failures", 0, b.vault.look(0));
        b.fail(4);
        Check.due("no KEY is asked for, even if LOCKED", 3, b.vault.unseal(0, 0));
        Check.due("CLOSED then", 1, b.vault.look(5));
        Check.due("not twice", Bench.REFUSED, b.vault.unseal(0, 0));
    }

    private static void byAnotherNumber() {
        Bench b = new Bench(12);
        b.sealed("abc", -1);
        for (int by : new int[] {4, 5, -2, Integer.MIN_VALUE, Integer.MAX_VALUE}) {
            Check.due("unseal(0, " + by + ")", Bench.REFUSED, b.vault.unseal(0, by));
        }
        b.fail(4);
        Check.due("REFUSED though LOCKED", Bench.REFUSED, b.vault.unseal(0, 4));
    }

    private static void byAThingWithoutPolicy() {
        Bench b = new Bench(12);
        b.vault.open(0);
        b.sealed("abc", 0);
        Check.due("NO POLICY, and a DIGEST of 0", Bench.WRONG, b.vault.unseal(0, 0));
        b.vault.define(0, 1, 0, 0);
        Check.due("a value likewise", Bench.WRONG, b.vault.count(0, 0));
        b.vault.policyAuth(0);
        Check.due("NO POLICY, and a DIGEST", Bench.WRONG, b.vault.unseal(0, 0));
    }
}
