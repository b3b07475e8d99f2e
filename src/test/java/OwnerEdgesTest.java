import java.util.Arrays;

/** Promises 30 to 35, sentence by sentence: own, unlock, clear, tick, restart, look. */
public final class OwnerEdgesTest {
    private static final byte[] ZERO = new byte[32];

    private OwnerEdgesTest() {
    }

    public static void main(String[] args) {
        Sentences says = new Sentences();
        says.promise(30, "OWNER'S: the owner's AUTH becomes H(TAPE): 0.", OwnerEdgesTest::owned);
        says.promise(31, "FAILURES become 0: 0.", OwnerEdgesTest::unlocked);
        says.promise(31, "DENIED, and FAILURES is 1 more, if THE KEY is not the owner's AUTH (LOCKED or not).",
            OwnerEdgesTest::unlockDenied);
        says.promise(32, "OWNER'S: THE SEED becomes H(SEED)", OwnerEdgesTest::clearOfTheSeed);
        says.promise(32, "values are none, objects free, the owner's AUTH as at first", OwnerEdgesTest::cleared);
        says.promise(32, "(all else stays, THE GREATEST, too): 0.", OwnerEdgesTest::clearLeaves);
        says.promise(33, "THE CLOCK is n more (0 to 100000): it", OwnerEdgesTest::ticked);
        says.promise(33, "for each multiple of 100 that it comes to, FAILURES are 1 less, if there are.",
            OwnerEdgesTest::tickForgives);
        says.promise(33, "REFUSED for another n", OwnerEdgesTest::tickOfAnother);
        says.promise(33, "or if it would be above 2000000000.", OwnerEdgesTest::tickOfTheLast);
        says.promise(34, "RESTARTS are 1 more", OwnerEdgesTest::restarted);
        says.promise(34, "registers are 0, sessions CLOSED, objects free, values not SHUT: RESTARTS.",
            OwnerEdgesTest::restartBeginsAnew);
        says.promise(35, "What 0: FAILURES, 1: THE CLOCK, 2: RESTARTS, 3: blobs made, 4: objects, 5: open sessions, "
            + "6: values, 7: bytes on the TAPE.", OwnerEdgesTest::looked);
        says.promise(35, "REFUSED for others.", OwnerEdgesTest::lookOfOthers);
        says.coverPromises(30, 35);
        Check.finish("OwnerEdgesTest");
    }

    private static void owned() {
        for (int n : new int[] {0, 1, 400}) {
            Bench b = new Bench(6);
            b.tape(Bench.row(n));
            Check.due("own of " + n, 0, b.vault.own());
            Check.due("the tape is empty", 0, b.vault.look(7));
            Check.due("OUT stays", 0, b.vault.octet(-1));
            Check.due("THE KEY of before", n == 0 ? 0 : Bench.DENIED, b.vault.own());
            b.tape(Bench.row(n)).vault.key();
            Check.due("H(TAPE)", 0, b.vault.own());
            Check.due("that is H of no bytes now", n == 0 ? 0 : Bench.DENIED, b.vault.own());
        }
        Asked.owner("own", true, v -> v.own());
    }

    private static void unlocked() {
        for (int failures = 0; failures < 8; failures++) {
            Bench b = Scene.make();
            byte[] out = b.out();
            b.fail(failures).key(Scene.OWNER).tape("stays");
            Check.due("unlock of " + failures, 0, b.vault.unlock());
            Check.due("FAILURES", 0, b.vault.look(0));
            Check.due("the tape stays", 5, b.vault.look(7));
            Check.due("OUT stays", out, b.out());
            b.key(Scene.THINGS);
            Check.due("not LOCKED", 8, b.vault.read(0, -1));
        }
        Twins.withKey(Scene.OWNER).failures(0).leave("unlock of none", 0, v -> v.unlock());
    }

    private static void unlockDenied() {
        for (String word : new String[] {Scene.NOBODY, Scene.THINGS, ""}) {
            Bench b = Scene.make();
            b.key(word).tape("stays");
            byte[] out = b.out();
            for (int i = 1; i < 8; i++) {
                Check.due("unlock", Bench.DENIED, b.vault.unlock());
                Check.due("FAILURES", i, b.vault.look(0));
            }
            Check.due("the tape stays", 5, b.vault.look(7));
            Check.due("OUT stays", out, b.out());
            b.key(Scene.OWNER);
            Check.due("the owner's AUTH stays", 0, b.vault.unlock());
        }
        Bench b = Scene.make();
        b.fail(3);
        Check.due("the fourth", Bench.DENIED, b.vault.unlock());
        b.key(Scene.THINGS);
        Check.due("locks", Bench.LOCKED, b.vault.read(0, -1));
    }

    private static void clearOfTheSeed() {
        byte[] seed = Bench.seedOf(6);
        Bench b = new Bench(6);
        for (int i = 0; i < 3; i++) {
            b.vault.quote(0);
            byte[] told = Bench.cat(Bench.one(81), Bench.one(0), Bench.h(), new byte[8]);
            Check.due("a quote", Bench.cat(told, Bench.mac(Bench.mac(seed, Bench.one(81)), told)), b.out());
            b.vault.seal(-1);
            Check.due("a blob", Bench.blob(seed, i, ZERO, Bench.h(), 0, new byte[0]), b.out());
            Check.due("clear", 0, b.vault.clear());
            b.vault.back();
            Check.due("a blob of before", Bench.BROKEN, b.vault.load());
            seed = Bench.h(seed);
        }
        Asked.owner("clear", false, v -> v.clear());
    }

    private static void cleared() {
        Bench b = Scene.make();
        b.key(Scene.OWNER);
        Check.due("clear", 0, b.vault.clear());
        Check.due("values", 0, b.vault.look(6));
        Check.due("objects", 0, b.vault.look(4));
        for (int i = 0; i < 8; i++) {
            Check.due("value " + i, Bench.NONE, b.vault.shut(i, -1));
        }
        for (int i = 0; i < 4; i++) {
            Check.due("object " + i, Bench.NONE, b.vault.flush(i));
        }
        Check.due("the owner of before", Bench.DENIED, b.vault.clear());
        b.vault.key();
        Check.due("H of no bytes", 0, b.vault.clear());
        for (int i = 0; i < 8; i++) {
            Check.due("define(" + i + ")", 0, b.vault.define(i, i % 3, 4, -1));
            Check.due("UNWRITTEN", Bench.FULL, b.vault.read(i, -1));
        }
        Check.due("6 was SHUT", 0, b.vault.write(6, 0, -1));
        for (int i = 0; i < 4; i++) {
            Check.due("load", i, b.sealed("new", -1));
        }
        Bench fresh = new Bench(6);
        Check.due("clear of what is as at first", 0, fresh.vault.clear());
        Check.due("and again", 0, fresh.vault.clear());
    }

    private static void clearLeaves() {
        Bench b = Scene.make();
        byte[] state = b.state(255);
        byte[][] digests = {b.digest(0), b.digest(1), b.digest(2)};
        byte[] out = b.out();
        b.fail(3).key(Scene.OWNER).tape("stays");
        Check.due("clear", 0, b.vault.clear());
        b.looks("after clear", 3, Scene.CLOCK, 1, 3, 0, 3, 0, 5);
        Check.due("OUT", out, b.out());
        Check.due("registers", state, b.state(255));
        for (int s = 0; s < 3; s++) {
            Check.due("DIGEST " + s, digests[s], b.digest(s));
        }
        b.vault.hash();
        Check.due("the TAPE", Bench.h(Bench.text("stays")), b.out());
        b.vault.seal(-1);
        byte[] key = Bench.h(Bench.text(Scene.OWNER));
        byte[] seed = Bench.h(Bench.seedOf(31));
        Check.due("THE KEY, and blobs made", Bench.blob(seed, 3, ZERO, key, 0, new byte[0]), b.out());
        b.vault.key();
        b.vault.define(0, 1, 0, -1);
        Check.due("THE GREATEST", 4, b.vault.count(0, -1));
    }

    private static void ticked() {
        Bench b = new Bench(6);
        b.tape("stays");
        int[][] ticks = {{0, 0}, {1, 1}, {0, 1}, {99999, 100000}, {100000, 200000}, {99, 200099}, {1, 200100}};
        for (int[] each : ticks) {
            Check.due("tick(" + each[0] + ")", each[1], b.vault.tick(each[0]));
            Check.due("look(1)", each[1], b.vault.look(1));
        }
        Check.due("the tape stays", 5, b.vault.look(7));
        Check.due("OUT stays", 0, b.vault.octet(-1));
        Twins.withKey(Scene.NOBODY).leave("tick(0)", Scene.CLOCK, v -> v.tick(0));
    }

    private static void forgives(int want, int failures, int... ticks) {
        Bench b = new Bench(6);
        b.fail(failures);
        for (int n : ticks) {
            b.vault.tick(n);
        }
        Check.due(failures + " FAILURES after " + Arrays.toString(ticks), want, b.vault.look(0));
    }

    private static void tickForgives() {
        forgives(5, 5, 0);
        forgives(5, 5, 1);
        forgives(5, 5, 99);
        forgives(4, 5, 100);
        forgives(4, 5, 101);
        forgives(4, 5, 99, 1);
        forgives(4, 5, 99, 2);
        forgives(4, 5, 100, 0);
        forgives(4, 5, 100, 99);
        forgives(4, 5, 100, 0, 99);
        forgives(3, 5, 100, 0, 100);
        forgives(3, 5, 100, 100);
        forgives(4, 5, 199);
        forgives(3, 5, 200);
        forgives(3, 5, 50, 150);
        forgives(4, 5, 50, 149);
        forgives(3, 5, 99, 101);
        forgives(3, 5, 99, 102);
        forgives(3, 5, 199, 1);
        forgives(1, 5, 499);
        forgives(0, 5, 500);
        forgives(0, 5, 600);
        forgives(0, 5, 100000);
        forgives(0, 0, 100);
        forgives(0, 1, 100, 100);
        forgives(0, 0, 100000);
        Bench b = new Bench(6);
        b.vault.tick(100000);
        b.fail(1);
        Check.due("what fails after a multiple", 1, b.vault.look(0));
        b.vault.tick(99);
        Check.due("stays till the next", 1, b.vault.look(0));
        b.vault.tick(1);
        Check.due("and no longer", 0, b.vault.look(0));
        Bench locked = Scene.make();
        locked.fail(4).key(Scene.THINGS);
        locked.vault.tick(49);
        Check.due("at 199", Bench.LOCKED, locked.vault.read(0, -1));
        locked.vault.tick(1);
        Check.due("at 200", 8, locked.vault.read(0, -1));
    }

    private static void tickOfAnother() {
        for (int n : new int[] {-1, -100, -150, 100001, 200000, Bench.LEAST, Bench.MOST, 2000000000}) {
            Twins.withKey(Scene.NOBODY).failures(5).leave("tick(" + n + ")", Bench.REFUSED, v -> v.tick(n));
        }
        Check.due("tick(0)", 0, new Bench(6).vault.tick(0));
        Check.due("tick(100000)", 100000, new Bench(6).vault.tick(100000));
    }

    /** No object comes so far in its 512 calls; the class keeps to the words all the same. */
    private static void tickOfTheLast() {
        Bench b = new Bench(6);
        for (int i = 0; i < 19999; i++) {
            b.vault.tick(100000);
        }
        b.vault.tick(99950);
        b.fail(2);
        Check.due("at", 1999999950, b.vault.look(1));
        for (int n : new int[] {51, 52, 100, 100000}) {
            Check.due("tick(" + n + ")", Bench.REFUSED, b.vault.tick(n));
            Check.due("THE CLOCK stays", 1999999950, b.vault.look(1));
            Check.due("FAILURES stay", 2, b.vault.look(0));
        }
        Check.due("tick(49)", 1999999999, b.vault.tick(49));
        Check.due("tick(2)", Bench.REFUSED, b.vault.tick(2));
        Check.due("tick(1)", 2000000000, b.vault.tick(1));
        Check.due("FAILURES", 1, b.vault.look(0));
        Check.due("tick(0)", 2000000000, b.vault.tick(0));
        Check.due("tick(1)", Bench.REFUSED, b.vault.tick(1));
    }

    private static void restarted() {
        Bench b = new Bench(6);
        for (int i = 1; i <= 200; i++) {
            Check.due("restart", i, b.vault.restart());
            Check.due("look(2)", i, b.vault.look(2));
        }
    }

    private static void restartBeginsAnew() {
        Bench b = Scene.make();
        for (int r = 0; r < 8; r++) {
            b.vault.extend(r);
        }
        b.vault.open(3);
        b.sealed("fourth", -1);
        for (int i = 0; i < 7; i++) {
            b.vault.shut(i, -1);
        }
        byte[] out = b.out();
        b.fail(3).key(Scene.THINGS).tape("stays");
        Check.due("restart", 2, b.vault.restart());
        b.looks("after restart", 3, Scene.CLOCK, 2, 4, 0, 0, 7, 5);
        Check.due("OUT stays", out, b.out());
        Check.due("registers", Bench.h(new byte[256]), b.state(255));
        for (int i = 0; i < 4; i++) {
            Check.due("session " + i, Bench.REFUSED, b.vault.digest(i));
            Check.due("object " + i, Bench.NONE, b.vault.unseal(i, -1));
        }
        int[] sizes = {8, 8, 32, Bench.FULL, Bench.FULL, 3, 8};
        for (int i = 0; i < 7; i++) {
            Check.due("value " + i + " stays", sizes[i], b.vault.read(i, -1));
        }
        b.vault.read(0, -1);
        Check.due("its bytes", new byte[] {0, 0, 'a', 'b', 0, 0, 0, 0}, b.out());
        b.vault.end(0);
        int[] answers = {b.vault.write(0, 0, -1), b.vault.count(1, -1), b.vault.chain(2, -1), b.vault.write(3, 0, -1),
            b.vault.count(4, -1), b.vault.write(5, 0, -1), b.vault.count(6, -1)};
        int[] due = {0, 3, 0, 0, 4, 0, 4};
        for (int i = 0; i < 7; i++) {
            Check.due("value " + i + " is not SHUT", due[i], answers[i]);
        }
        b.key(Scene.OWNER);
        Check.due("the owner stays", 0, b.vault.unlock());
    }

    private static void looked() {
        new Bench(6).looks("at first", 0, 0, 0, 0, 0, 0, 0, 0);
        Bench b = Scene.make();
        b.fail(5).key(Scene.NOBODY).tape(Bench.row(400));
        b.looks("of some", 5, Scene.CLOCK, 1, 3, 3, 3, 7, 400);
        b.key(Scene.OWNER).vault.unlock();
        b.vault.open(3);
        b.vault.define(7, 1, 0, -1);
        b.sealed("fourth", -1);
        b.sealed("no fifth", -1);
        b.looks("of the most", 0, Scene.CLOCK, 1, 5, 4, 4, 8, 0);
        int[] told = {2, Scene.CLOCK, 1, 3, 3, 3, 7, 4};
        for (int what = 0; what < 8; what++) {
            int which = what;
            Twins.withKey(Scene.NOBODY).leave("look(" + what + ")", told[what], v -> v.look(which));
        }
    }

    private static void lookOfOthers() {
        for (int what : new int[] {-1, -2, 8, 9, 256, Bench.LEAST, Bench.MOST}) {
            Twins.withKey(Scene.NOBODY).leave("look(" + what + ")", Bench.REFUSED, v -> v.look(what));
        }
    }
}
