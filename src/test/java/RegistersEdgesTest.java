/** Promises 8 to 11, sentence by sentence: extend, reset, state, quote. */
public final class RegistersEdgesTest {
    private static final byte[] ZERO = new byte[32];

    private RegistersEdgesTest() {
    }

    public static void main(String[] args) {
        Sentences says = new Sentences();
        says.promise(8, "Register r becomes H(it H(TAPE)): 0.", RegistersEdgesTest::extendOfEdges);
        says.promise(8, "REFUSED for another one.", RegistersEdgesTest::extendOfAnother);
        says.promise(9, "Register 6 or 7 becomes 0: 0.", RegistersEdgesTest::resetOfTwo);
        says.promise(9, "REFUSED for another one.", RegistersEdgesTest::resetOfAnother);
        says.promise(10, "OUT becomes the STATE of a set (the lowest 8 bits): 32.", RegistersEdgesTest::stateOfEdges);
        says.promise(11, "OUT becomes a quote: the bytes 81 and the set (lowest 8 bits), its STATE, 4 bytes THE CLOCK, "
            + "4 RESTARTS, the TAPE; and MAC(MAC(SEED, the byte 81), all these): how many bytes.",
            RegistersEdgesTest::quoteOfEdges);
        says.promise(11, "REFUSED if the TAPE has more than 32.", RegistersEdgesTest::quoteOfMore);
        says.coverPromises(8, 11);
        Check.finish("RegistersEdgesTest");
    }

    private static byte[] registers(byte[]... held) {
        return Bench.h(held);
    }

    private static void extendOfEdges() {
        for (int r = 0; r < 8; r++) {
            for (int n : new int[] {0, 1, 64, 400}) {
                Bench b = new Bench(3);
                b.tape(Bench.row(n));
                Check.due("extend(" + r + ") with " + n, 0, b.vault.extend(r));
                Check.due("the tape is empty", 0, b.vault.look(7));
                byte[][] held = {ZERO, ZERO, ZERO, ZERO, ZERO, ZERO, ZERO, ZERO};
                held[r] = Bench.h(ZERO, Bench.h(Bench.row(n)));
                Check.due("register " + r + ", and no other", registers(held), b.state(255));
                b.vault.extend(r);
                held[r] = Bench.h(held[r], Bench.h());
                Check.due("register " + r + " twice", registers(held), b.state(255));
            }
        }
    }

    private static void extendOfAnother() {
        for (int r : new int[] {-1, 8, 9, 255, 256, Bench.LEAST, Bench.MOST}) {
            Twins.withKey(Scene.NOBODY).leaveButTape("extend(" + r + ")", Bench.REFUSED, v -> v.extend(r));
        }
        Bench b = new Bench(3);
        Check.due("extend(0)", 0, b.vault.extend(0));
        Check.due("extend(7)", 0, b.vault.extend(7));
    }

    private static void resetOfTwo() {
        for (int r = 6; r < 8; r++) {
            Bench b = new Bench(3);
            byte[][] held = new byte[8][];
            for (int i = 0; i < 8; i++) {
                b.tape("r" + i).vault.extend(i);
                held[i] = Bench.h(ZERO, Bench.h(Bench.text("r" + i)));
            }
            b.tape("stays");
            Check.due("reset(" + r + ")", 0, b.vault.reset(r));
            Check.due("the tape stays", 5, b.vault.look(7));
            Check.due("OUT stays", 0, b.vault.octet(-1));
            held[r] = ZERO;
            Check.due("register " + r + " is 0, and no other", registers(held), b.state(255));
            Check.due("reset of what is 0", 0, b.vault.reset(r));
            Check.due("it is 0 still", registers(held), b.state(255));
            b.vault.end(0);
            b.vault.extend(r);
            held[r] = Bench.h(ZERO, Bench.h());
            Check.due("extended from 0", registers(held), b.state(255));
        }
    }

    private static void resetOfAnother() {
        for (int r : new int[] {0, 1, 2, 3, 4, 5, 8, 9, -1, -2, Bench.LEAST, Bench.MOST}) {
            Twins.withKey(Scene.NOBODY).leave("reset(" + r + ")", Bench.REFUSED, v -> v.reset(r));
        }
    }

    private static void stateOfEdges() {
        Bench b = new Bench(3);
        byte[][] held = new byte[8][];
        for (int r = 0; r < 8; r++) {
            b.tape("r" + r).vault.extend(r);
            held[r] = Bench.h(ZERO, Bench.h(Bench.text("r" + r)));
        }
        int[] sets = {0, 1, 128, 129, 255, 256, 257, 384, 511, -1, -256, -255, -128, Bench.LEAST, Bench.MOST};
        for (int set : sets) {
            byte[] all = {};
            for (int r = 0; r < 8; r++) {
                all = (set & 1 << r) != 0 ? Bench.cat(all, held[r]) : all;
            }
            Check.due("state(" + set + ")", 32, b.vault.state(set));
            Check.due("OUT of " + set, Bench.h(all), b.out());
        }
        Bench first = new Bench(3);
        first.fail(5).tape(Bench.row(400));
        Check.due("state though LOCKED", 32, first.vault.state(0));
        Check.due("a full tape stays", 400, first.vault.look(7));
        Check.due("FAILURES stay", 5, first.vault.look(0));
    }

    private static byte[] quote(int set, byte[] state, int clock, int restarts, byte[] tape) {
        byte[] told = Bench.cat(Bench.one(81), Bench.one(set), state, Bench.four(clock), Bench.four(restarts), tape);
        return Bench.cat(told, Bench.mac(Bench.mac(Bench.seedOf(3), Bench.one(81)), told));
    }

    private static void quoteOfEdges() {
        for (int n : new int[] {0, 1, 31, 32}) {
            Bench b = new Bench(3);
            b.tape(Bench.row(n));
            Check.due("quote with " + n, 74 + n, b.vault.quote(0));
            Check.due("the tape is empty", 0, b.vault.look(7));
            Check.due("octet(-1)", 74 + n, b.vault.octet(-1));
            Check.due("a quote with " + n, quote(0, Bench.h(), 0, 0, Bench.row(n)), b.out());
        }
        for (int set : new int[] {1, 128, 255, 256, 0x7fffff80, -1, -256, Bench.LEAST, Bench.MOST}) {
            Bench b = new Bench(3);
            b.vault.quote(set);
            byte[] state = Bench.h(new byte[32 * Integer.bitCount(set & 255)]);
            Check.due("a quote of " + set, quote(set & 255, state, 0, 0, new byte[0]), b.out());
        }
        Bench b = new Bench(3);
        for (int i = 0; i < 257; i++) {
            b.vault.restart();
        }
        for (int i = 0; i < 168; i++) {
            b.vault.tick(100000);
        }
        b.vault.quote(0);
        Check.due("a late quote", quote(0, Bench.h(), 16800000, 257, new byte[0]), b.out());
    }

    private static void quoteOfMore() {
        for (int n : new int[] {33, 34, 400}) {
            Twins.withKey(Scene.NOBODY).tape(Bench.row(n))
                .leaveButTape("quote with " + n, Bench.REFUSED, v -> v.quote(255));
        }
        Bench b = new Bench(3);
        Check.due("quote with 32", 106, b.tape(Bench.row(32)).vault.quote(255));
    }
}
