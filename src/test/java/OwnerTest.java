/** Promises 30 to 35: own, unlock, clear, tick, restart, look. */
public final class OwnerTest {
    private OwnerTest() {
    }

    public static void main(String[] args) {
        promise30Own();
        promise31Unlock();
        promise32Clear();
        promise32Denied();
        promise33Tick();
        promise34Restart();
        promise34Stays();
        promise35Look();
        Check.finish("OwnerTest");
    }

    private static void promise30Own() {
        Bench b = new Bench(6);
        b.tape("first");
        Check.due("own", 0, b.vault.own());
        Check.due("the tape is empty", 0, b.vault.look(7));
        b.tape("second");
        Check.due("no more the owner", Bench.DENIED, b.vault.own());
        Check.due("the tape is empty", 0, b.vault.look(7));
        Check.due("a failure", 1, b.vault.look(0));
        b.key("second");
        Check.due("the AUTH did not change", Bench.DENIED, b.vault.own());
        b.key("first").tape("second");
        Check.due("own again", 0, b.vault.own());
        b.key("second").tape("second");
        Check.due("own with the same", 0, b.vault.own());
        b.fail(2);
        b.key("second").tape("third");
        Check.due("LOCKED", Bench.LOCKED, b.vault.own());
        Check.due("the tape is empty", 0, b.vault.look(7));
        Check.due("LOCKED is no failure", 4, b.vault.look(0));
        Check.due("the AUTH is the second", 0, b.vault.unlock());
        Check.due("own of no bytes", 0, b.vault.own());
        b.vault.key();
        Check.due("the AUTH as at first", 0, b.vault.clear());
    }

    private static void promise31Unlock() {
        Bench b = new Bench(6);
        Check.due("unlock of none", 0, b.vault.unlock());
        b.key("nobody").tape("stays");
        for (int i = 1; i <= 7; i++) {
            Check.due("unlock", Bench.DENIED, b.vault.unlock());
            Check.due("failures", i, b.vault.look(0));
        }
        Check.due("the tape stays", 5, b.vault.look(7));
        b.vault.key();
        b.vault.key();
        Check.due("unlock though LOCKED", 0, b.vault.unlock());
        Check.due("no failures", 0, b.vault.look(0));
        Check.due("not LOCKED", 0, b.vault.own());
        b.fail(3);
        b.vault.key();
        Check.due("unlock before LOCKED", 0, b.vault.unlock());
        Check.due("no failures", 0, b.vault.look(0));
    }

    private static void promise32Clear() {
        Bench b = new Bench(6);
        b.vault.define(0, 1, 0, -1);
        b.vault.count(0, -1);
        b.vault.define(7, 2, 0, -1);
        b.sealed("x", -1);
        b.tape("boot");
        b.vault.extend(0);
        b.vault.open(2);
        b.vault.policyAuth(2);
        b.vault.tick(7);
        b.vault.seal(-1);
        byte[] old = b.out();
        byte[] state = b.state(255);
        byte[] digest = b.digest(2);
        b.tape("own");
        b.vault.own();
        b.fail(2);
        b.key("own").tape("stays");
        Check.due("clear", 0, b.vault.clear());
        b.looks("after clear", 2, 7, 0, 2, 0, 1, 0, 5);
        Check.due("OUT stays", digest, b.out());
        Check.due("registers stay", state, b.state(255));
        Check.due("sessions stay", digest, b.digest(2));
        b.vault.end(0);
        b.tape(old);
        Check.due("blobs of before are BROKEN", Bench.BROKEN, b.vault.load());
        b.vault.seal(-1);
        byte[] auth = Bench.h(Bench.text("own"));
        byte[] seed = Bench.h(Bench.seedOf(6));
        Check.due("THE SEED is H of it, THE KEY stays",
            Bench.blob(seed, 2, new byte[32], auth, 0, new byte[0]), b.out());
        Check.due("no more the owner", Bench.DENIED, b.vault.own());
        b.vault.key();
        Check.due("the owner's AUTH as at first", 0, b.vault.own());
    }

    private static void promise32Denied() {
        Bench b = new Bench(6);
        b.vault.define(0, 1, 0, -1);
        b.sealed("x", -1);
        b.key("nobody");
        Check.due("clear", Bench.DENIED, b.vault.clear());
        Check.due("a failure", 1, b.vault.look(0));
        b.fail(3);
        b.vault.key();
        Check.due("LOCKED", Bench.LOCKED, b.vault.clear());
        Check.due("LOCKED is no failure", 4, b.vault.look(0));
        Check.due("the object stays", 1, b.vault.look(4));
        Check.due("the value stays", 1, b.vault.look(6));
        b.vault.unlock();
        Check.due("THE SEED stays", 1, b.sealed("y", -1));
        b.vault.quote(0);
        byte[] told = Bench.cat(Bench.one(81), Bench.one(0), Bench.h(), new byte[8]);
        byte[] key = Bench.mac(Bench.seedOf(6), Bench.one(81));
        Check.due("a quote as before", Bench.cat(told, Bench.mac(key, told)), b.out());
    }

    private static void promise33Tick() {
        Bench b = new Bench(6);
        Check.due("tick(0)", 0, b.vault.tick(0));
        Check.due("tick(1)", 1, b.vault.tick(1));
        Check.due("tick(100000)", 100001, b.vault.tick(100000));
        Check.due("tick(99)", 100100, b.vault.tick(99));
        Check.due("look(1)", 100100, b.vault.look(1));
    }

    private static void promise34Restart() {
        Bench b = new Bench(6);
        for (int r = 0; r < 8; r++) {
            b.vault.extend(r);
        }
        for (int i = 0; i < 4; i++) {
            b.vault.open(i);
            b.sealed("x", -1);
        }
        for (int i = 0; i < 8; i++) {
            b.vault.define(i, 1, 0, -1);
            b.vault.shut(i, -1);
        }
        Check.due("restart", 1, b.vault.restart());
        Check.due("registers are 0", Bench.h(new byte[256]), b.state(255));
        Check.due("no object", 0, b.vault.look(4));
        Check.due("no open session", 0, b.vault.look(5));
        Check.due("values", 8, b.vault.look(6));
        for (int i = 0; i < 8; i++) {
            Check.due("not SHUT", i + 1, b.vault.count(i, -1));
        }
        Check.due("restart again", 2, b.vault.restart());
        Check.due("look(2)", 2, b.vault.look(2));
    }

    private static void promise34Stays() {
        Bench b = new Bench(6);
        b.vault.define(0, 0, 4, -1);
        b.tape("abcd");
        b.vault.write(0, 0, -1);
        b.vault.tick(150);
        b.vault.seal(-1);
        byte[] blob = b.out();
        b.vault.define(1, 1, 0, -1);
        b.vault.count(1, -1);
        b.tape("own");
        b.vault.own();
        b.fail(3);
        b.key("own").tape("tape");
        Check.due("restart", 1, b.vault.restart());
        b.looks("after restart", 3, 150, 1, 1, 0, 0, 2, 4);
        Check.due("OUT stays", blob, b.out());
        Check.due("THE KEY and the owner stay", 0, b.vault.undefine(1));
        b.vault.key();
        b.vault.read(0, -1);
        Check.due("DENIED of another KEY", 4, b.vault.look(0));
        b.key("own");
        b.vault.unlock();
        b.tape(blob);
        Check.due("a blob of before", 0, b.vault.load());
        b.vault.key();
        Check.due("values stay", 4, b.vault.read(0, -1));
        Check.due("their bytes", Bench.text("abcd"), b.out());
    }

    private static void promise35Look() {
        Bench b = new Bench(6);
        b.fail(1);
        b.vault.key();
        b.vault.tick(22);
        b.vault.restart();
        b.vault.restart();
        b.vault.restart();
        for (int i = 0; i < 2; i++) {
            b.sealed("x", -1);
        }
        b.vault.seal(-1);
        b.vault.seal(-1);
        b.vault.open(0);
        b.vault.open(1);
        b.vault.open(3);
        for (int i = 3; i < 8; i++) {
            b.vault.define(i, 2, 0, -1);
        }
        b.tape("six   ");
        int[] want = {1, 22, 3, 4, 2, 3, 5, 6};
        for (int what = 0; what < want.length; what++) {
            Check.due("look(" + what + ")", want[what], b.vault.look(what));
            Check.due("look(" + what + ") changes nothing", want[what], b.vault.look(what));
        }
        Check.due("look(8)", Bench.REFUSED, b.vault.look(8));
        Check.due("look(-1)", Bench.REFUSED, b.vault.look(-1));
        for (int far : Bench.FAR) {
            Check.due("look(" + far + ")", Bench.REFUSED, b.vault.look(far));
        }
    }
}
