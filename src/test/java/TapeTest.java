import java.util.Arrays;

/** Promises 1 to 7: a new object, feed, end, octet, back, hash, key. */
public final class TapeTest {
    private TapeTest() {
    }

    public static void main(String[] args) {
        promise1NewObject();
        promise1Seed();
        promise2Feed();
        promise3End();
        promise4Octet();
        promise5Back();
        promise6Hash();
        promise7Key();
        tapeIsEmptiedWhateverTheAnswer();
        tapeAndOutStayOtherwise();
        Check.finish("TapeTest");
    }

    private static void promise1NewObject() {
        MeasuredVault v = new MeasuredVault(77);
        for (int what = 0; what <= 7; what++) {
            Check.due("new: look(" + what + ")", 0, v.look(what));
        }
        Check.due("new: octet(-1)", 0, v.octet(-1));
        Check.due("new: octet(0)", Bench.NONE, v.octet(0));
        for (int i = 0; i < 4; i++) {
            Check.due("new: digest", Bench.REFUSED, v.digest(i));
            Check.due("new: flush", Bench.NONE, v.flush(i));
        }
        for (int i = 0; i < 8; i++) {
            Check.due("new: shut", Bench.NONE, v.shut(i, -1));
        }
        Bench b = new Bench(77);
        Check.due("new: registers are 0", Bench.h(new byte[256]), b.state(255));
        Check.due("new: THE KEY is the owner's AUTH", 0, v.undefine(0) == Bench.NONE ? v.clear() : 1);
        b.key("");
        Check.due("new: the owner's AUTH is H of no bytes", 0, b.vault.clear());
        Bench c = new Bench(77);
        c.vault.define(0, 1, 0, -1);
        Check.due("new: THE KEY is H of no bytes", 1, c.vault.count(0, -1));
    }

    private static void promise1Seed() {
        for (int seed : new int[] {0, 1, -1, 5, 0x12345678, Integer.MIN_VALUE, Integer.MAX_VALUE}) {
            Bench b = new Bench(seed);
            b.vault.quote(0);
            byte[] told = Bench.cat(Bench.one(81), Bench.one(0), Bench.h(), new byte[8]);
            byte[] key = Bench.mac(Bench.seedOf(seed), Bench.one(81));
            Check.due("quote of seed " + seed, Bench.cat(told, Bench.mac(key, told)), b.out());
        }
    }

    private static void promise2Feed() {
        Bench b = new Bench(1);
        Check.due("feed", 20, b.vault.feed(0x01020384, -2, Integer.MIN_VALUE, Integer.MAX_VALUE, 0x8090a0b0));
        byte[] want = Bench.cat(Bench.four(0x01020384), Bench.four(-2), Bench.four(Integer.MIN_VALUE),
            Bench.four(Integer.MAX_VALUE), Bench.four(0x8090a0b0));
        b.vault.hash();
        Check.due("H of what was fed", Bench.h(want), b.out());
        for (int i = 1; i <= 20; i++) {
            Check.due("feed " + i, 20 * i, b.vault.feed(i, 0, 0, 0, -i));
        }
        Check.due("feed of a full tape", Bench.FULL, b.vault.feed(1, 2, 3, 4, 5));
        Check.due("a full tape stays", 400, b.vault.look(7));
        b.vault.end(381);
        Check.due("feed to 401", Bench.FULL, b.vault.feed(1, 2, 3, 4, 5));
        Check.due("381 stay", 381, b.vault.look(7));
        b.vault.end(380);
        Check.due("feed to 400", 400, b.vault.feed(1, 2, 3, 4, 5));
    }

    private static void promise3End() {
        Bench b = new Bench(1);
        Check.due("end(0) of none", 0, b.vault.end(0));
        Check.due("end(1) of none", Bench.REFUSED, b.vault.end(1));
        b.tape(Bench.row(30));
        Check.due("end(31)", Bench.REFUSED, b.vault.end(31));
        Check.due("end(-1)", Bench.REFUSED, b.vault.end(-1));
        for (int far : Bench.FAR) {
            Check.due("end(" + far + ")", Bench.REFUSED, b.vault.end(far));
        }
        Check.due("the tape stays", 30, b.vault.look(7));
        Check.due("end(30)", 30, b.vault.end(30));
        Check.due("end(7)", 7, b.vault.end(7));
        Check.due("look(7)", 7, b.vault.look(7));
        b.tape("xyz");
        b.vault.hash();
        Check.due("what comes behind a cut", Bench.h(Bench.row(7), Bench.text("xyz")), b.out());
    }

    private static void promise4Octet() {
        Bench b = new Bench(1);
        b.vault.hash();
        byte[] want = Bench.h();
        Check.due("octet(-1)", 32, b.vault.octet(-1));
        for (int i = 0; i < 32; i++) {
            Check.due("octet(" + i + ")", want[i] & 255, b.vault.octet(i));
        }
        Check.due("octet(32)", Bench.NONE, b.vault.octet(32));
        for (int far : Bench.FAR) {
            Check.due("octet(" + far + ")", Bench.NONE, b.vault.octet(far));
        }
        Bench c = new Bench(1);
        c.vault.seal(-1);
        c.vault.back();
        c.vault.load();
        Check.due("OUT before", 101, c.vault.octet(-1));
        Check.due("unseal of no bytes", 0, c.vault.unseal(0, -1));
        Check.due("OUT has none", 0, c.vault.octet(-1));
        Check.due("OUT has no byte 0", Bench.NONE, c.vault.octet(0));
    }

    private static void promise5Back() {
        Bench b = new Bench(1);
        Check.due("back of no OUT", 0, b.vault.back());
        b.tape("ab");
        Check.due("back of no OUT behind two", 2, b.vault.back());
        b.vault.hash();
        b.tape("cd");
        Check.due("back behind two", 34, b.vault.back());
        Check.due("OUT stays", Bench.h(Bench.text("ab")), b.out());
        Check.due("back again", 66, b.vault.back());
        b.vault.hash();
        byte[] ab = Bench.h(Bench.text("ab"));
        Check.due("the tape was", Bench.h(Bench.text("cd"), ab, ab), b.out());
        b.tape(Bench.row(369));
        Check.due("back to 401", Bench.FULL, b.vault.back());
        Check.due("nothing is done", 369, b.vault.look(7));
        b.vault.end(368);
        byte[] before = b.out();
        Check.due("back to 400", 400, b.vault.back());
        b.vault.hash();
        Check.due("a tape of 400", Bench.h(Bench.row(368), before), b.out());
    }

    private static void promise6Hash() {
        for (int n = 0; n <= 400; n++) {
            Bench b = new Bench(1);
            b.tape(Bench.row(n));
            Check.due("hash()", 32, b.vault.hash());
            Check.due("H of " + n + " bytes", Bench.h(Bench.row(n)), b.out());
            Check.due("the tape is empty", 0, b.vault.look(7));
        }
    }

    private static void promise7Key() {
        Bench b = new Bench(1);
        b.vault.hash();
        b.tape("own");
        Check.due("own()", 0, b.vault.own());
        b.tape("own ");
        b.vault.end(3);
        Check.due("key()", 0, b.vault.key());
        Check.due("the tape is empty", 0, b.vault.look(7));
        Check.due("OUT stays", Bench.h(), b.out());
        Check.due("THE KEY is H of what key told", 0, b.vault.clear());
        b.key("owm");
        Check.due("THE KEY is another", Bench.DENIED, b.vault.clear());
        b.vault.key();
        Check.due("THE KEY of no bytes", 0, b.vault.clear());
        b.key("secret");
        Check.due("no-one is locked out", 1, b.vault.look(0));
        b.vault.seal(-1);
        byte[] made = b.out();
        byte[] auth = Bench.h(Bench.text("secret"));
        byte[] seed = Bench.h(Bench.h(Bench.seedOf(1)));
        Check.due("seal has THE KEY", Bench.blob(seed, 0, new byte[32], auth, 0, new byte[0]), made);
    }

    private static void tapeIsEmptiedWhateverTheAnswer() {
        for (int call = 0; call < 11; call++) {
            for (int refused = 0; refused < 2; refused++) {
                Bench b = new Bench(1);
                b.vault.open(0);
                if (refused == 1) {
                    b.fail(5);
                } else {
                    b.vault.define(1, 0, 40, -1);
                    b.vault.define(2, 2, 0, -1);
                }
                b.tape("tape");
                int answer = readsTape(b.vault, call, refused == 1 ? 9 : 0);
                Check.due("call " + call + " empties the tape, answering " + answer, 0, b.vault.look(7));
            }
        }
    }

    private static int readsTape(MeasuredVault v, int call, int off) {
        switch (call) {
            case 0: return v.hash();
            case 1: return v.key();
            case 2: return v.extend(off);
            case 3: return v.quote(0);
            case 4: return v.policyOr(off);
            case 5: return v.seal(off);
            case 6: return v.load();
            case 7: return v.define(3 + off, 0, 4, -1);
            case 8: return v.write(1 + off, 0, -1);
            case 9: return v.chain(2 + off, -1);
            default: return v.own();
        }
    }

    private static void tapeAndOutStayOtherwise() {
        Bench b = new Bench(1);
        b.vault.define(0, 1, 0, -1);
        b.sealed("x", -1);
        b.tape("tape");
        MeasuredVault v = b.vault;
        byte[] out = b.out();
        v.reset(6);
        v.open(0);
        v.policyState(0, 1);
        v.policyAuth(0);
        v.policyCode(0, 1);
        v.policyTime(0, 1);
        v.count(0, -1);
        v.shut(0, -1);
        v.unseal(1, -1);
        v.read(7, -1);
        v.digest(3);
        v.flush(0);
        v.undefine(0);
        v.unlock();
        v.tick(1);
        v.restart();
        v.look(0);
        v.clear();
        Check.due("the tape stays", 4, v.look(7));
        Check.due("OUT stays", out, b.out());
        b.tape(Bench.row(29));
        Check.due("quote of 33", Bench.REFUSED, v.quote(0));
        b.tape(Bench.row(129));
        Check.due("seal of 129", Bench.REFUSED, v.seal(-1));
        b.tape(Arrays.copyOf(out, out.length));
        Check.due("load after clear", Bench.BROKEN, v.load());
        Check.due("OUT stays by calls that refuse", out, b.out());
    }
}
