/** Promises 8 to 11: extend, reset, state, quote. */
public final class RegistersTest {
    private RegistersTest() {
    }

    public static void main(String[] args) {
        promise8Extend();
        promise8Refused();
        promise9Reset();
        promise10State();
        promise11Quote();
        promise11Limit();
        Check.finish("RegistersTest");
    }

    private static void promise8Extend() {
        Bench b = new Bench(3);
        byte[][] want = new byte[8][32];
        for (int r = 0; r < 8; r++) {
            for (int i = 0; i <= r; i++) {
                b.tape("part " + r + i);
                Check.due("extend(" + r + ")", 0, b.vault.extend(r));
                want[r] = Bench.h(want[r], Bench.h(Bench.text("part " + r + i)));
            }
        }
        Check.due("extend tells nothing", 0, b.vault.octet(-1));
        for (int r = 0; r < 8; r++) {
            Check.due("register " + r, Bench.h(want[r]), b.state(1 << r));
        }
        b.vault.extend(4);
        Check.due("extended by no bytes", Bench.h(Bench.h(want[4], Bench.h())), b.state(16));
    }

    private static void promise8Refused() {
        Bench b = new Bench(3);
        b.tape("abc");
        Check.due("extend(8)", Bench.REFUSED, b.vault.extend(8));
        Check.due("the tape is empty", 0, b.vault.look(7));
        Check.due("extend(-1)", Bench.REFUSED, b.vault.extend(-1));
        for (int far : Bench.FAR) {
            Check.due("extend(" + far + ")", Bench.REFUSED, b.vault.extend(far));
        }
        Check.due("registers stay", Bench.h(new byte[256]), b.state(255));
    }

    private static void promise9Reset() {
        Bench b = new Bench(3);
        for (int r = 0; r < 8; r++) {
            b.vault.extend(r);
        }
        byte[] extended = Bench.h(new byte[32], Bench.h());
        for (int r = -1; r <= 8; r++) {
            if (r != 6 && r != 7) {
                Check.due("reset(" + r + ")", Bench.REFUSED, b.vault.reset(r));
            }
        }
        for (int far : Bench.FAR) {
            Check.due("reset(" + far + ")", Bench.REFUSED, b.vault.reset(far));
        }
        for (int r = 0; r < 8; r++) {
            Check.due("register " + r + " stays", Bench.h(extended), b.state(1 << r));
        }
        Check.due("reset(6)", 0, b.vault.reset(6));
        Check.due("6 is 0, 7 and 5 are not", Bench.h(extended, new byte[32], extended), b.state(0xe0));
        Check.due("reset(7)", 0, b.vault.reset(7));
        Check.due("6 and 7 are 0", Bench.h(extended, new byte[64]), b.state(0xe0));
        Check.due("reset of 0", 0, b.vault.reset(7));
    }

    private static void promise10State() {
        Bench b = new Bench(3);
        byte[][] held = new byte[8][];
        for (int r = 0; r < 8; r++) {
            b.tape("r" + r);
            b.vault.extend(r);
            held[r] = Bench.h(new byte[32], Bench.h(Bench.text("r" + r)));
        }
        b.tape("stays");
        for (int set : new int[] {0, 1, 2, 0x80, 0x81, 0x55, 0xaa, 0xff, 0x13c}) {
            byte[] all = new byte[0];
            for (int r = 0; r < 8; r++) {
                all = (set >> r & 1) == 1 ? Bench.cat(all, held[r]) : all;
            }
            Check.due("state(" + set + ")", 32, b.vault.state(set));
            Check.due("STATE of " + set, Bench.h(all), b.out());
        }
        Check.due("STATE of -1 is that of 255", b.state(255), b.state(-1));
        Check.due("STATE of 256 is that of 0", Bench.h(), b.state(256));
        Check.due("STATE of the least", Bench.h(), new Bench(1).state(Integer.MIN_VALUE));
        Check.due("the tape stays", 5, b.vault.look(7));
    }

    private static void promise11Quote() {
        for (int n : new int[] {0, 1, 31, 32}) {
            Bench b = new Bench(-9);
            b.vault.restart();
            b.vault.restart();
            b.vault.tick(70000);
            b.tape("x");
            b.vault.extend(2);
            b.tape(Bench.row(n));
            Check.due("quote", 74 + n, b.vault.quote(0xfffff704));
            Check.due("the tape is empty", 0, b.vault.look(7));
            byte[] state = Bench.h(Bench.h(new byte[32], Bench.h(Bench.text("x"))));
            byte[] told = Bench.cat(Bench.one(81), Bench.one(4), state, Bench.four(70000), Bench.four(2), Bench.row(n));
            byte[] mark = Bench.mac(Bench.mac(Bench.seedOf(-9), Bench.one(81)), told);
            Check.due("a quote with " + n, Bench.cat(told, mark), b.out());
        }
        Bench b = new Bench(4);
        b.vault.quote(0xf0);
        Check.due("the set's byte", 0xf0, b.vault.octet(1));
    }

    private static void promise11Limit() {
        for (int n : new int[] {33, 34, 64, 400}) {
            Bench b = new Bench(4);
            b.vault.hash();
            b.tape(Bench.row(n));
            Check.due("quote with " + n, Bench.REFUSED, b.vault.quote(1));
            Check.due("the tape is empty", 0, b.vault.look(7));
            Check.due("OUT stays", Bench.h(), b.out());
        }
    }
}
