import java.util.Arrays;

/** Promises 19 to 22, sentence by sentence: seal, load, unseal, flush. */
public final class SealedEdgesTest {
    private static final byte[] ZERO = new byte[32];
    private static final int SEED = 12;
    private static final int[] NO_OBJECT = {-1, -2, 4, 5, 256, Bench.LEAST, Bench.MOST};

    private SealedEdgesTest() {
    }

    public static void main(String[] args) {
        Sentences says = new Sentences();
        says.promise(19, "OUT becomes a BLOB of the TAPE, with THE KEY as AUTH, and the DIGEST of a session as POLICY",
            SealedEdgesTest::sealOfSessions);
        says.promise(19, "(-1: NO POLICY): how many bytes.", SealedEdgesTest::sealOfSizes);
        says.promise(19, "REFUSED for another session", SealedEdgesTest::sealOfAnother);
        says.promise(19, "or if it is CLOSED", SealedEdgesTest::sealOfClosed);
        says.promise(19, "or the TAPE has more than 128.", SealedEdgesTest::sealOfMore);
        says.promise(20, "The TAPE as a BLOB becomes an object: the least number of 0 to 3 that is free.",
            SealedEdgesTest::loadToTheLeast);
        says.promise(20, "BROKEN if it is none of this module's (M is another", SealedEdgesTest::loadOfOthers);
        says.promise(20, "or d has not as many bytes as its byte tells)", SealedEdgesTest::loadOfOtherSizes);
        says.promise(20, "then FULL if no number is free.", SealedEdgesTest::loadIsFull);
        says.promise(21, "BY, code 1: OUT becomes the data of an object: how many bytes.",
            SealedEdgesTest::unsealOfEdges);
        says.promise(21, "NONE if there is none.", SealedEdgesTest::unsealOfNone);
        says.promise(22, "An object is free: 0.", SealedEdgesTest::flushFrees);
        says.promise(22, "NONE if it is.", SealedEdgesTest::flushOfNone);
        says.coverPromises(19, 22);
        Check.finish("SealedEdgesTest");
    }

    private static byte[] blob(int number, byte[] policy, byte[] auth, byte[] data) {
        return Bench.blob(Bench.seedOf(SEED), number, policy, auth, data.length, data);
    }

    private static void sealOfSessions() {
        for (int s = 0; s < 4; s++) {
            Bench b = new Bench(SEED);
            b.vault.open(s);
            b.vault.policyTime(s, s);
            byte[] policy = Bench.h(ZERO, Bench.one(4), Bench.four(s));
            b.key("k" + s).tape("data");
            Check.due("seal(" + s + ")", 105, b.vault.seal(s));
            Check.due("the tape is empty", 0, b.vault.look(7));
            Check.due("the blob", blob(0, policy, Bench.h(Bench.text("k" + s)), Bench.text("data")), b.out());
            Check.due("the session stays", policy, b.digest(s));
            b.vault.open(s);
            b.vault.seal(s);
            Check.due("a DIGEST of 0", blob(1, ZERO, Bench.h(Bench.text("k" + s)), new byte[0]), b.out());
        }
    }

    private static void sealOfSizes() {
        for (int n : new int[] {0, 1, 30, 31, 32, 62, 63, 64, 94, 95, 96, 126, 127, 128}) {
            Bench b = new Bench(SEED);
            b.vault.open(0);
            b.vault.policyAuth(0);
            b.tape(Bench.row(n));
            Check.due("seal of " + n, 101 + n, b.vault.seal(-1));
            Check.due("octet(-1)", 101 + n, b.vault.octet(-1));
            Check.due("the blob of " + n, blob(0, ZERO, Bench.h(), Bench.row(n)), b.out());
            Check.due("blobs made", 1, b.vault.look(3));
        }
    }

    private static void sealOfAnother() {
        for (int s : new int[] {-2, 4, 5, 256, Bench.LEAST, Bench.MOST}) {
            Twins.withKey(Scene.THINGS).leaveButTape("seal(" + s + ")", Bench.REFUSED, v -> v.seal(s));
        }
        for (int s = -1; s < 3; s++) {
            Check.due("seal(" + s + ")", 101, Scene.make().vault.seal(s));
        }
    }

    private static void sealOfClosed() {
        Twins.withKey(Scene.THINGS).leaveButTape("seal(3)", Bench.REFUSED, v -> v.seal(3));
        Twins.withKey(Scene.THINGS).after(b -> b.vault.unseal(2, 2))
            .leaveButTape("seal of one that was used", Bench.REFUSED, v -> v.seal(2));
        for (int s = 0; s < 4; s++) {
            int which = s;
            Twins.withKey(Scene.THINGS).after(b -> b.vault.restart())
                .leaveButTape("seal(" + s + ") after restart", Bench.REFUSED, v -> v.seal(which));
        }
    }

    private static void sealOfMore() {
        for (int n : new int[] {129, 130, 255, 256, 400}) {
            Twins.withKey(Scene.THINGS).tape(Bench.row(n)).leaveButTape("seal of " + n, Bench.REFUSED, v -> v.seal(-1));
            Twins.withKey(Scene.THINGS).tape(Bench.row(n)).leaveButTape("seal of " + n, Bench.REFUSED, v -> v.seal(0));
        }
        Bench b = new Bench(SEED);
        Check.due("seal of 128", 229, b.tape(Bench.row(128)).vault.seal(-1));
        b.tape(Bench.row(129)).vault.seal(-1);
        b.vault.seal(-1);
        Check.due("a refused one is no blob made", blob(1, ZERO, Bench.h(), new byte[0]), b.out());
    }

    private static void loadToTheLeast() {
        for (int freed = 0; freed < 16; freed++) {
            Bench b = new Bench(SEED);
            for (int i = 0; i < 4; i++) {
                Check.due("load", i, b.sealed("o" + i, -1));
            }
            for (int i = 0; i < 4; i++) {
                if ((freed >> i & 1) != 0) {
                    b.vault.flush(i);
                }
            }
            int least = freed == 0 ? Bench.FULL : Integer.numberOfTrailingZeros(freed);
            Check.due("load with " + freed + " free", least, b.sealed("new", -1));
            for (int i = 0; i < 4; i++) {
                boolean old = (freed >> i & 1) == 0;
                Check.due("object " + i, old ? 2 : i == least ? 3 : Bench.NONE, b.vault.unseal(i, -1));
                byte[] data = Bench.text(old ? "o" + i : "new");
                Check.due("its data", old || i == least ? data : b.out(), b.out());
            }
        }
        for (int n : new int[] {0, 1, 127, 128}) {
            Bench b = new Bench(SEED);
            b.tape(blob(-1, ZERO, Bench.h(), Bench.row(n)));
            Check.due("load of " + n, 0, b.vault.load());
            Check.due("the tape is empty", 0, b.vault.look(7));
            Check.due("OUT stays", 0, b.vault.octet(-1));
            Check.due("unseal", n, b.vault.unseal(0, -1));
            Check.due("the data", Bench.row(n), b.out());
        }
    }

    private static void loadOfOthers() {
        for (int n : new int[] {0, 1, 128}) {
            byte[] good = blob(0, ZERO, Bench.h(), Bench.row(n));
            for (int i = 0; i < good.length; i++) {
                byte[] bad = good.clone();
                bad[i] ^= (byte) (1 << i % 8);
                Bench b = new Bench(SEED);
                Check.due("byte " + i + " is another", Bench.BROKEN, b.tape(bad).vault.load());
                Check.due("no object", 0, b.vault.look(4));
                Check.due("the tape is empty", 0, b.vault.look(7));
            }
        }
        for (int n : new int[] {0, 1, 4, 68, 69, 100, 101, 102, 229, 230, 399, 400}) {
            Twins.withKey(Scene.THINGS).tape(Bench.row(n)).leaveButTape("a tape of " + n, Bench.BROKEN, v -> v.load());
            Twins.withKey(Scene.THINGS).tape(new byte[n]).leaveButTape("a tape of " + n, Bench.BROKEN, v -> v.load());
        }
        Twins.withKey(Scene.THINGS).tape(blob(0, ZERO, Bench.h(), Bench.row(5)))
            .leaveButTape("a blob of another module", Bench.BROKEN, v -> v.load());
        Bench b = new Bench(SEED);
        b.vault.clear();
        Check.due("one of before clear", Bench.BROKEN, b.tape(blob(0, ZERO, Bench.h(), Bench.row(5))).vault.load());
        Check.due("a quote is no blob", Bench.BROKEN, quoteAsBlob());
    }

    private static int quoteAsBlob() {
        Bench b = new Bench(SEED);
        b.tape(Bench.row(32)).vault.quote(255);
        b.vault.back();
        return b.vault.load();
    }

    private static void loadOfOtherSizes() {
        for (int n : new int[] {0, 1, 5, 127, 128}) {
            for (int told : new int[] {0, 1, n - 1, n, n + 1, 128, 129, 255}) {
                Bench b = new Bench(SEED);
                b.tape(Bench.blob(Bench.seedOf(SEED), 0, ZERO, Bench.h(), told, Bench.row(n)));
                Check.due(n + " bytes, told as " + told, told == n ? 0 : Bench.BROKEN, b.vault.load());
                Check.due("objects", told == n ? 1 : 0, b.vault.look(4));
                Check.due("the tape is empty", 0, b.vault.look(7));
            }
        }
        for (int n : new int[] {129, 255, 299}) {
            Bench b = new Bench(SEED);
            b.tape(Bench.blob(Bench.seedOf(SEED), 0, ZERO, Bench.h(), n, Bench.row(n)));
            Check.due("a blob has 0 to 128, not " + n, Bench.BROKEN, b.vault.load());
        }
        byte[] good = blob(0, ZERO, Bench.h(), Bench.row(5));
        for (int cut : new int[] {1, 32, 37, 38, 69}) {
            Bench b = new Bench(SEED);
            b.tape(Arrays.copyOf(good, good.length - cut));
            Check.due("cut by " + cut, Bench.BROKEN, b.vault.load());
        }
        Bench b = new Bench(SEED);
        Check.due("one byte more", Bench.BROKEN, b.tape(good).tape(new byte[1]).vault.load());
    }

    private static void loadIsFull() {
        Twins.Act four = b -> {
            b.vault.end(0);
            b.sealed("fourth", -1);
            b.vault.back();
        };
        Twins.withKey(Scene.THINGS).after(four).leaveButTape("a fifth", Bench.FULL, v -> v.load());
        Twins.withKey(Scene.THINGS).after(b -> {
            four.on(b);
            b.vault.end(106);
        }).leaveButTape("a broken fifth", Bench.BROKEN, v -> v.load());
        Bench b = Scene.make();
        Check.due("a fourth", 3, b.sealed("fourth", -1));
        Check.due("a fifth", Bench.FULL, b.sealed("fifth", -1));
        b.vault.flush(1);
        Check.due("when one is free", 1, b.sealed("fifth", -1));
    }

    private static void unsealOfEdges() {
        for (int n : new int[] {0, 1, 127, 128}) {
            Bench b = new Bench(SEED);
            b.tape(Bench.row(n)).vault.seal(-1);
            b.vault.back();
            b.vault.load();
            b.tape("stays");
            for (int i = 0; i < 2; i++) {
                Check.due("unseal of " + n, n, b.vault.unseal(0, -1));
                Check.due("octet(-1)", n, b.vault.octet(-1));
                Check.due("OUT", Bench.row(n), b.out());
            }
            Check.due("the object stays", 1, b.vault.look(4));
            Check.due("the tape stays", 5, b.vault.look(7));
        }
        Asked.by("unseal", false, (v, by) -> v.unseal(1, by));
    }

    private static void unsealOfNone() {
        for (int by : new int[] {-1, 0, 2, 3, 4}) {
            Twins.withKey(Scene.NOBODY).leave("unseal(3, " + by + ")", Bench.NONE, v -> v.unseal(3, by));
            Twins.withKey(Scene.NOBODY).failures(4).leave("unseal(3, " + by + ")", Bench.NONE, v -> v.unseal(3, by));
            for (int object : NO_OBJECT) {
                Twins.withKey(Scene.NOBODY)
                    .leave("unseal(" + object + ", " + by + ")", Bench.NONE, v -> v.unseal(object, by));
            }
        }
        Twins.withKey(Scene.THINGS).after(b -> b.vault.flush(1))
            .leave("unseal of a flushed one", Bench.NONE, v -> v.unseal(1, -1));
        Twins.withKey(Scene.THINGS).after(b -> b.vault.restart())
            .leave("unseal after restart", Bench.NONE, v -> v.unseal(1, -1));
        Check.due("unseal of one that is there", 6, Scene.make().vault.unseal(1, -1));
    }

    private static void flushFrees() {
        for (int object = 0; object < 4; object++) {
            Bench b = new Bench(SEED);
            for (int i = 0; i < 4; i++) {
                b.sealed("o" + i, -1);
            }
            byte[] out = b.out();
            b.fail(5).tape("stays");
            Check.due("flush(" + object + "), of whom ever", 0, b.vault.flush(object));
            Check.due("objects", 3, b.vault.look(4));
            Check.due("OUT stays", out, b.out());
            Check.due("the tape stays", 5, b.vault.look(7));
            b.key("").vault.unlock();
            for (int i = 0; i < 4; i++) {
                Check.due("object " + i, i == object ? Bench.NONE : 2, b.vault.unseal(i, -1));
            }
        }
    }

    private static void flushOfNone() {
        Twins.withKey(Scene.NOBODY).leave("flush(3)", Bench.NONE, v -> v.flush(3));
        for (int object : NO_OBJECT) {
            Twins.withKey(Scene.NOBODY).leave("flush(" + object + ")", Bench.NONE, v -> v.flush(object));
        }
        for (int object = 0; object < 3; object++) {
            int which = object;
            Twins.withKey(Scene.NOBODY).after(b -> b.vault.flush(which))
                .leave("flush(" + object + ") again", Bench.NONE, v -> v.flush(which));
        }
        Twins.withKey(Scene.NOBODY).after(b -> b.vault.restart()).leave("after restart", Bench.NONE, v -> v.flush(0));
        Twins.withKey(Scene.OWNER).after(b -> b.vault.clear()).leave("after clear", Bench.NONE, v -> v.flush(0));
    }
}
