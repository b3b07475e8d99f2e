import java.util.Arrays;

/** Promises 1 to 7, sentence by sentence: a new object, feed, end, octet, back, hash, key. */
public final class TapeEdgesTest {
    private static final int[] EXTREMES = {0, 1, -1, 127, 128, 255, 256, 0x01000000, 0x80000001, Bench.LEAST,
        Bench.MOST};

    private TapeEdgesTest() {
    }

    public static void main(String[] args) {
        Sentences says = new Sentences();
        says.promise(1, "The module, made with a number.", TapeEdgesTest::madeWithANumber);
        says.promise(2, "Twenty bytes, five times four, the highest of each first, come to the TAPE: how many it has",
            TapeEdgesTest::feedOfTwenty);
        says.promise(2, "FULL if it would have more than 400.", TapeEdgesTest::feedIsFull);
        says.promise(3, "The TAPE is cut to its first n bytes: n", TapeEdgesTest::endCuts);
        says.promise(3, "REFUSED if it has less", TapeEdgesTest::endOfLess);
        says.promise(3, "or n is below 0.", TapeEdgesTest::endBelowZero);
        says.promise(4, "Byte i of OUT", TapeEdgesTest::octetTells);
        says.promise(4, "for i -1 how many.", TapeEdgesTest::octetCounts);
        says.promise(4, "NONE if there is none.", TapeEdgesTest::octetNone);
        says.promise(5, "OUT comes behind the TAPE: how many bytes that has", TapeEdgesTest::backComesBehind);
        says.promise(5, "FULL (nothing is done) if it would have more than 400.", TapeEdgesTest::backIsFull);
        says.promise(6, "OUT becomes H of the TAPE: 32.", TapeEdgesTest::hashOfEdges);
        says.promise(7, "THE KEY becomes H of the TAPE: 0.", TapeEdgesTest::keyOfEdges);
        says.coverPromises(1, 7);
        Check.finish("TapeEdgesTest");
    }

    private static void madeWithANumber() {
        for (int number : EXTREMES) {
            Bench b = new Bench(number);
            b.vault.seal(-1);
            byte[] made = b.out();
            Check.due("the blob of a module made with " + number,
                Bench.blob(Bench.seedOf(number), 0, new byte[32], Bench.h(), 0, new byte[0]), made);
            Bench same = new Bench(number);
            Check.due("one made with the same number", 0, same.tape(made).vault.load());
            Bench other = new Bench(number + 1);
            Check.due("one made with 1 more", Bench.BROKEN, other.tape(made).vault.load());
            Bench turned = new Bench(number ^ Bench.LEAST);
            Check.due("one with the highest bit turned", Bench.BROKEN, turned.tape(made).vault.load());
        }
    }

    private static void feedOfTwenty() {
        for (int place = 0; place < 5; place++) {
            for (int number : EXTREMES) {
                int[] five = {0x01020304, 0x05060708, 0x090a0b0c, 0x0d0e0f10, 0x11121314};
                five[place] = number;
                Bench b = new Bench(1);
                Check.due("feed", 20, b.vault.feed(five[0], five[1], five[2], five[3], five[4]));
                b.vault.hash();
                byte[] want = Bench.cat(Bench.four(five[0]), Bench.four(five[1]), Bench.four(five[2]),
                    Bench.four(five[3]), Bench.four(five[4]));
                Check.due("H of " + Arrays.toString(five), Bench.h(want), b.out());
            }
        }
        Bench b = new Bench(1);
        for (int n = 20; n <= 400; n += 20) {
            Check.due("feed", n, b.vault.feed(n, 0, 0, 0, 0));
            Check.due("look(7)", n, b.vault.look(7));
        }
    }

    private static void feedIsFull() {
        for (int n = 379; n <= 400; n++) {
            Bench b = new Bench(1);
            b.tape(Bench.row(n));
            boolean fits = n <= 380;
            Check.due("feed behind " + n, fits ? n + 20 : Bench.FULL, b.vault.feed(0, 0, 0, 0, 0));
            Check.due("look(7)", fits ? n + 20 : n, b.vault.look(7));
            b.vault.hash();
            Check.due("H of " + n, fits ? Bench.h(Bench.row(n), new byte[20]) : Bench.h(Bench.row(n)), b.out());
        }
        for (int n : new int[] {381, 400}) {
            Twins.withKey(Scene.NOBODY).tape(Bench.row(n))
                .leave("feed behind " + n, Bench.FULL, v -> v.feed(-1, -1, -1, -1, -1));
        }
    }

    private static void endCuts() {
        for (int size : new int[] {0, 1, 20, 399, 400}) {
            for (int n : new int[] {0, 1, 19, size - 1, size}) {
                if (n >= 0 && n <= size) {
                    Bench b = new Bench(1);
                    b.tape(Bench.row(size));
                    Check.due("end(" + n + ") of " + size, n, b.vault.end(n));
                    Check.due("look(7)", n, b.vault.look(7));
                    b.vault.hash();
                    Check.due("H of the first " + n, Bench.h(Bench.row(n)), b.out());
                }
            }
        }
        Bench b = new Bench(1);
        b.tape(Bench.row(400));
        b.vault.end(3);
        Check.due("what was cut off does not come again", Bench.REFUSED, b.vault.end(4));
    }

    private static void endOfLess() {
        for (int size : new int[] {0, 1, 4, 399, 400}) {
            for (int n : new int[] {size + 1, 401, Bench.MOST}) {
                Twins.withKey(Scene.NOBODY).tape(Bench.row(size))
                    .leave("end(" + n + ") of " + size, Bench.REFUSED, v -> v.end(n));
            }
            Twins.withKey(Scene.NOBODY).tape(Bench.row(size)).leave("end(" + size + ")", size, v -> v.end(size));
        }
    }

    private static void endBelowZero() {
        for (int size : new int[] {0, 4, 400}) {
            for (int n : new int[] {-1, -4, -400, Bench.LEAST}) {
                Twins.withKey(Scene.NOBODY).tape(Bench.row(size))
                    .leave("end(" + n + ") of " + size, Bench.REFUSED, v -> v.end(n));
            }
            Bench b = new Bench(1);
            Check.due("end(0) of " + size, 0, b.tape(Bench.row(size)).vault.end(0));
        }
    }

    /** A vault whose OUT is these bytes: at most 128 of them, unsealed. */
    private static Bench withOut(byte[] bytes) {
        Bench b = new Bench(1);
        b.tape(bytes).vault.seal(-1);
        b.vault.back();
        b.vault.load();
        b.vault.unseal(0, -1);
        return b;
    }

    private static void octetTells() {
        int[] edges = {0, 1, 127, 128, 254, 255};
        byte[] bytes = new byte[edges.length];
        for (int i = 0; i < edges.length; i++) {
            bytes[i] = (byte) edges[i];
        }
        Bench b = withOut(bytes);
        for (int i = 0; i < edges.length; i++) {
            Check.due("octet(" + i + ")", edges[i], b.vault.octet(i));
        }
        Bench longest = new Bench(1);
        longest.tape(Bench.row(128)).vault.seal(-1);
        byte[] blob = Bench.blob(Bench.seedOf(1), 0, new byte[32], Bench.h(), 128, Bench.row(128));
        for (int i : new int[] {0, 1, 127, 128, 227, 228}) {
            Check.due("octet(" + i + ") of a blob", blob[i] & 255, longest.vault.octet(i));
        }
    }

    private static void octetCounts() {
        Check.due("at first", 0, new Bench(1).vault.octet(-1));
        for (int n : new int[] {0, 1, 2, 127, 128}) {
            Bench b = withOut(Bench.row(n));
            Check.due("of data", n, b.vault.octet(-1));
            Check.due("asked again", n, b.vault.octet(-1));
            b.tape(Bench.row(n)).vault.seal(-1);
            Check.due("of a blob", 101 + n, b.vault.octet(-1));
        }
    }

    private static void octetNone() {
        for (int n : new int[] {0, 1, 32, 128}) {
            Bench b = withOut(Bench.row(n));
            if (n > 0) {
                Check.due("the last of " + n, Bench.row(n)[n - 1] & 255, b.vault.octet(n - 1));
            }
            // OUT was a blob before and longer: what is left of that is no byte of OUT.
            for (int i : new int[] {n, n + 1, 228, 229, 400, Bench.MOST, -2, -3, Bench.LEAST}) {
                Check.due("octet(" + i + ") of " + n, Bench.NONE, b.vault.octet(i));
            }
        }
        Check.due("octet(0) at first", Bench.NONE, new Bench(1).vault.octet(0));
        for (int i : new int[] {32, -2}) {
            Twins.withKey(Scene.NOBODY).leave("octet(" + i + ")", Bench.NONE, v -> v.octet(i));
        }
    }

    private static void backComesBehind() {
        Bench b = new Bench(1);
        Check.due("none behind none", 0, b.vault.back());
        b.tape(Bench.row(400));
        Check.due("none behind 400", 400, b.vault.back());
        b.vault.hash();
        byte[] out = b.out();
        Check.due("behind none", 32, b.vault.back());
        Check.due("behind that", 64, b.vault.back());
        Check.due("OUT stays", out, b.out());
        b.vault.end(33);
        Check.due("behind a cut", 65, b.vault.back());
        b.vault.hash();
        Check.due("the bytes", Bench.h(out, Arrays.copyOf(out, 1), out), b.out());
    }

    private static void backIsFull() {
        for (int n : new int[] {1, 2, 127, 128}) {
            Bench b = withOut(Bench.row(n));
            b.tape(Bench.row(400 - n));
            Check.due(n + " to 400", 400, b.vault.back());
            b.vault.hash();
            Check.due("H of 400", Bench.h(Bench.row(400 - n), Bench.row(n)), b.out());
            Bench over = withOut(Bench.row(n));
            over.tape(Bench.row(401 - n));
            Check.due(n + " to 401", Bench.FULL, over.vault.back());
            Check.due("OUT stays", Bench.row(n), over.out());
            over.vault.hash();
            Check.due("H of " + (401 - n), Bench.h(Bench.row(401 - n)), over.out());
        }
        Bench blob = new Bench(1);
        blob.tape(Bench.row(128)).vault.seal(-1);
        Check.due("229 behind 172", Bench.FULL, blob.tape(Bench.row(172)).vault.back());
        blob.vault.end(171);
        Check.due("229 behind 171", 400, blob.vault.back());
        for (int n : new int[] {369, 400}) {
            Twins.withKey(Scene.NOBODY).tape(Bench.row(n)).leave("32 behind " + n, Bench.FULL, v -> v.back());
        }
    }

    /** Where a block of the hash is just filled, or its end just does not fit, and the ends of the TAPE. */
    private static final int[] HASHED = {0, 1, 54, 55, 56, 57, 63, 64, 65, 119, 120, 183, 184, 247, 248, 311, 312, 375,
        376, 399, 400};

    private static void hashOfEdges() {
        for (int n : HASHED) {
            Bench b = new Bench(1);
            b.tape(Bench.row(n));
            Check.due("hash of " + n, 32, b.vault.hash());
            Check.due("octet(-1)", 32, b.vault.octet(-1));
            Check.due("H of " + n, Bench.h(Bench.row(n)), b.out());
            Check.due("the tape is empty", 0, b.vault.look(7));
        }
    }

    private static void keyOfEdges() {
        for (int n : HASHED) {
            Bench b = new Bench(1);
            b.vault.hash();
            b.tape(Bench.row(n));
            Check.due("key of " + n, 0, b.vault.key());
            Check.due("the tape is empty", 0, b.vault.look(7));
            Check.due("OUT stays", Bench.h(), b.out());
            b.vault.seal(-1);
            Check.due("THE KEY of " + n,
                Bench.blob(Bench.seedOf(1), 0, new byte[32], Bench.h(Bench.row(n)), 0, new byte[0]), b.out());
        }
        Bench b = new Bench(1);
        b.fail(5);
        Check.due("key though LOCKED", 0, b.vault.key());
        Check.due("key takes no failure away", 5, b.vault.look(0));
    }
}
