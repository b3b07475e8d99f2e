/** Promises 12 to 18, sentence by sentence: open, policyState, policyAuth, policyCode, policyTime, policyOr, digest. */
public final class SessionsEdgesTest {
    private static final byte[] ZERO = new byte[32];
    private static final int[] NO_SESSION = {-1, -2, 4, 5, 256, Bench.LEAST, Bench.MOST};

    private interface Step {
        int on(MeasuredVault v, int s);
    }

    private SessionsEdgesTest() {
    }

    public static void main(String[] args) {
        Sentences says = new Sentences();
        says.promise(12, "A session is open, with a DIGEST of 0, without conditions: 0.", SessionsEdgesTest::openAnew);
        says.promise(12, "REFUSED for another one.", SessionsEdgesTest::openOfAnother);
        says.promise(13, "The DIGEST becomes H(it, the bytes 1 and the set (lowest 8 bits), its STATE)",
            SessionsEdgesTest::stateOfSets);
        says.promise(13, "a CONDITION of registers (told again: since the first time): 0.",
            SessionsEdgesTest::stateToldAgain);
        says.promise(13, "REFUSED if it is CLOSED.", () -> closed("policyState", (v, s) -> v.policyState(s, 1)));
        says.promise(14, "The DIGEST becomes H(it, the byte 2)", SessionsEdgesTest::authSteps);
        says.promise(14, "a CONDITION of the auth: 0.", SessionsEdgesTest::authAsked);
        says.promise(14, "REFUSED if it is CLOSED.", () -> closed("policyAuth", (v, s) -> v.policyAuth(s)));
        says.promise(15, "The DIGEST becomes H(it, the bytes 3 and the code)", SessionsEdgesTest::codeSteps);
        says.promise(15, "a CONDITION of the code, 1 to 6: 0.", SessionsEdgesTest::codeAsked);
        says.promise(15, "REFUSED for another code", SessionsEdgesTest::codeOfAnother);
        says.promise(15, "if it is CLOSED", () -> closed("policyCode", (v, s) -> v.policyCode(s, 1)));
        says.promise(15, "or has such a condition.", SessionsEdgesTest::codeToldAgain);
        says.promise(16, "The DIGEST becomes H(it, the byte 4, 4 bytes time)", SessionsEdgesTest::timeSteps);
        says.promise(16, "a CONDITION of the time, the least that was told: 0.", SessionsEdgesTest::timeOfTheLeast);
        says.promise(16, "REFUSED if it is CLOSED.", () -> closed("policyTime", (v, s) -> v.policyTime(s, 1000)));
        says.promise(17, "The TAPE has 2 to 8 digests of 32 bytes", SessionsEdgesTest::orOfTwoToEight);
        says.promise(17, "the DIGEST is one of them: it becomes H(32 bytes 0, the byte 5, the TAPE): 0.",
            SessionsEdgesTest::orOfEachPlace);
        says.promise(17, "REFUSED if it is CLOSED", SessionsEdgesTest::orOfClosed);
        says.promise(17, "or the TAPE has not", SessionsEdgesTest::orOfOtherTapes);
        says.promise(17, "WRONG if it is none.", SessionsEdgesTest::orOfNone);
        says.promise(17, "(Conditions stay.)", SessionsEdgesTest::orLeavesConditions);
        says.promise(18, "OUT becomes the DIGEST: 32.", SessionsEdgesTest::digestTells);
        says.promise(18, "REFUSED if it is CLOSED.", () -> closed("digest", (v, s) -> v.digest(s)));
        says.coverPromises(12, 18);
        Check.finish("SessionsEdgesTest");
    }

    /** A step of a session that was never opened, was used, was shut by restart, or is none; and of an open one. */
    private static void closed(String name, Step step) {
        Twins.withKey(Scene.NOBODY).leave(name + " of one never open", Bench.REFUSED, v -> step.on(v, 3));
        Twins.withKey(Scene.THINGS).after(b -> b.vault.unseal(2, 2))
            .leave(name + " of one that was used", Bench.REFUSED, v -> step.on(v, 2));
        for (int s = 0; s < 4; s++) {
            int which = s;
            Twins.withKey(Scene.NOBODY).after(b -> b.vault.restart())
                .leave(name + "(" + s + ") after restart", Bench.REFUSED, v -> step.on(v, which));
            Bench b = new Bench(1);
            b.vault.open(s);
            for (int other = 0; other < 4; other++) {
                int answer = step.on(b.vault, other);
                Check.holds(name + "(" + other + ") with " + s + " open is good for that alone: " + answer,
                    other == s ? answer >= 0 : answer == Bench.REFUSED);
            }
        }
        for (int s : NO_SESSION) {
            Twins.withKey(Scene.NOBODY).leave(name + "(" + s + ")", Bench.REFUSED, v -> step.on(v, s));
        }
    }

    private static void openAnew() {
        Step[] conditions = {
            (v, s) -> v.policyState(s, 1), (v, s) -> v.policyAuth(s), (v, s) -> v.policyCode(s, 5),
            (v, s) -> v.policyTime(s, 0)
        };
        for (int s = 0; s < 4; s++) {
            Bench b = new Bench(1);
            Check.due("open(" + s + ")", 0, b.vault.open(s));
            Check.due("open sessions", 1, b.vault.look(5));
            Check.due("its DIGEST", ZERO, b.digest(s));
            Check.due("open(" + s + ") again", 0, b.vault.open(s));
            Check.due("open sessions", 1, b.vault.look(5));
            for (Step old : conditions) {
                Bench c = new Bench(1);
                c.vault.open(s);
                c.vault.policyCode(s, 1);
                c.things(s);
                c.vault.open(s);
                old.on(c.vault, s);
                Check.due("open again", 0, c.vault.open(s));
                Check.due("a DIGEST of 0 again", ZERO, c.digest(s));
                Check.due("policyCode", 0, c.vault.policyCode(s, 1));
                c.vault.end(0);
                c.vault.extend(0);
                c.vault.tick(1);
                c.key(Scene.NOBODY);
                Check.due("no condition of before is left", 3, c.vault.unseal(0, s));
            }
        }
        Bench b = new Bench(1);
        b.vault.open(0);
        b.vault.policyAuth(0);
        byte[] digest = b.digest(0);
        b.vault.open(1);
        Check.due("another session stays", digest, b.digest(0));
    }

    private static void openOfAnother() {
        for (int s : NO_SESSION) {
            Twins.withKey(Scene.NOBODY).leave("open(" + s + ")", Bench.REFUSED, v -> v.open(s));
        }
        Bench b = new Bench(1);
        Check.due("open(0)", 0, b.vault.open(0));
        Check.due("open(3)", 0, b.vault.open(3));
    }

    private static void stateOfSets() {
        for (int set : new int[] {0, 1, 127, 128, 255, 256, 257, -1, -256, Bench.LEAST, Bench.MOST}) {
            Bench b = new Bench(1);
            byte[] all = {};
            for (int r = 0; r < 8; r++) {
                b.tape("r" + r).vault.extend(r);
                byte[] held = Bench.h(ZERO, Bench.h(Bench.text("r" + r)));
                all = (set & 1 << r) != 0 ? Bench.cat(all, held) : all;
            }
            b.vault.open(3);
            byte[] want = ZERO;
            for (int i = 0; i < 2; i++) {
                Check.due("policyState(3, " + set + ")", 0, b.vault.policyState(3, set));
                want = Bench.h(want, Bench.one(1), Bench.one(set & 255), Bench.h(all));
                Check.due("the DIGEST", want, b.digest(3));
            }
        }
    }

    /** Whether object 0, of two steps of the empty set, is told after changes before, between and behind the steps. */
    private static int stateAfter(boolean before, boolean between, boolean behind) {
        Bench b = new Bench(1);
        b.vault.open(0);
        b.vault.policyState(0, 0);
        b.vault.policyState(0, 0);
        b.things(0);
        b.vault.open(0);
        change(b, before);
        b.vault.policyState(0, 0);
        change(b, between);
        Check.due("told again", 0, b.vault.policyState(0, 0));
        change(b, behind);
        return b.vault.unseal(0, 0);
    }

    private static void change(Bench b, boolean really) {
        if (really) {
            b.vault.extend(0);
        }
    }

    private static void stateToldAgain() {
        Check.due("no change", 3, stateAfter(false, false, false));
        Check.due("a change before the first time", 3, stateAfter(true, false, false));
        Check.due("a change between", Bench.WRONG, stateAfter(false, true, false));
        Check.due("a change after the last time", Bench.WRONG, stateAfter(false, false, true));
        Bench b = new Bench(1);
        b.vault.open(0);
        b.vault.policyState(0, 0);
        b.things(0);
        b.vault.extend(0);
        b.vault.open(0);
        b.vault.policyState(0, 0);
        Check.due("an open anew makes it the first time anew", 3, b.vault.unseal(0, 0));
    }

    private static void authSteps() {
        Bench b = new Bench(1);
        b.vault.open(0);
        byte[] want = ZERO;
        for (int i = 0; i < 3; i++) {
            Check.due("policyAuth", 0, b.vault.policyAuth(0));
            want = Bench.h(want, Bench.one(2));
            Check.due("the DIGEST", want, b.digest(0));
        }
    }

    private static void authAsked() {
        for (int times = 0; times < 3; times++) {
            Bench b = new Bench(1);
            b.vault.open(0);
            b.vault.policyCode(0, 1);
            for (int i = 0; i < times; i++) {
                b.vault.policyAuth(0);
            }
            b.things(0).key(Scene.NOBODY);
            Check.due("told " + times + " times, another KEY", times == 0 ? 3 : Bench.DENIED, b.vault.unseal(0, 0));
            Check.due("FAILURES", times == 0 ? 0 : 1, b.vault.look(0));
            b.key(Scene.THINGS);
            Check.due("told " + times + " times, its KEY", times == 0 ? Bench.REFUSED : 3, b.vault.unseal(0, 0));
        }
    }

    private static void codeSteps() {
        for (int code = 1; code <= 6; code++) {
            Bench b = new Bench(1);
            b.vault.open(0);
            b.vault.policyAuth(0);
            Check.due("policyCode(0, " + code + ")", 0, b.vault.policyCode(0, code));
            Check.due("the DIGEST", Bench.h(Bench.h(ZERO, Bench.one(2)), Bench.one(3), Bench.one(code)), b.digest(0));
        }
    }

    private static void codeAsked() {
        for (int told = 1; told <= 6; told++) {
            for (int code = 1; code <= 6; code++) {
                Bench b = new Bench(1);
                b.vault.open(0);
                Check.due("policyCode(0, " + told + ")", 0, b.vault.policyCode(0, told));
                b.things(0);
                Check.due("code " + code + " by one of " + told, code == told ? Bench.good(code) : Bench.WRONG,
                    Bench.use(b.vault, code, 0));
                Check.due("open sessions", code == told ? 0 : 1, b.vault.look(5));
            }
        }
    }

    private static void codeOfAnother() {
        for (int code : new int[] {0, 7, 8, -1, -6, 256, 257, 262, Bench.LEAST, Bench.MOST}) {
            Twins.withKey(Scene.NOBODY).leave("policyCode(0, " + code + ")", Bench.REFUSED, v -> v.policyCode(0, code));
            Bench b = new Bench(1);
            b.vault.open(0);
            b.vault.policyCode(0, code);
            Check.due("no condition came of it", 0, b.vault.policyCode(0, 1));
            Check.due("the DIGEST", Bench.h(ZERO, Bench.one(3), Bench.one(1)), b.digest(0));
        }
    }

    private static void codeToldAgain() {
        for (int code = 1; code <= 6; code++) {
            int again = code;
            Twins.withKey(Scene.NOBODY)
                .leave("policyCode(1, " + code + ")", Bench.REFUSED, v -> v.policyCode(1, again));
        }
        Bench b = new Bench(1);
        b.vault.open(0);
        b.vault.open(1);
        b.vault.policyCode(0, 6);
        Check.due("another session has none", 0, b.vault.policyCode(1, 6));
        b.vault.open(0);
        Check.due("nor has one opened anew", 0, b.vault.policyCode(0, 6));
    }

    private static void timeSteps() {
        byte[] want = ZERO;
        Bench b = new Bench(1);
        b.vault.open(0);
        for (int time : new int[] {Bench.MOST, 256, 255, 1, 0, -1, -256, Bench.LEAST}) {
            Check.due("policyTime(0, " + time + ")", 0, b.vault.policyTime(0, time));
            want = Bench.h(want, Bench.one(4), Bench.four(time));
            Check.due("the DIGEST", want, b.digest(0));
        }
    }

    /** What the object of a policy of times answers at a time of THE CLOCK. */
    private static int timed(int clock, int... times) {
        Bench b = new Bench(1);
        b.vault.open(0);
        for (int time : times) {
            b.vault.policyTime(0, time);
        }
        b.things(0).vault.tick(clock);
        return b.vault.unseal(0, 0);
    }

    private static void timeOfTheLeast() {
        int[][] least = {{20}, {20, 20}, {20, 21}, {21, 20}, {30, 20, 25}, {20, 25, 30}, {30, 25, 20},
            {20, Bench.MOST}};
        for (int[] times : least) {
            Check.due("THE CLOCK is 19", 3, timed(19, times));
            Check.due("THE CLOCK is 20", 3, timed(20, times));
            Check.due("THE CLOCK is 21", Bench.WRONG, timed(21, times));
        }
        Check.due("a time of 0, at 0", 3, timed(0, 0));
        Check.due("a time of 0, at 1", Bench.WRONG, timed(1, 0));
        Check.due("a time of -1", Bench.WRONG, timed(0, -1));
        Check.due("a time of -1, then a later one", Bench.WRONG, timed(0, -1, 5));
        Check.due("0 told after a later one", Bench.WRONG, timed(1, 5, 0));
        Check.due("the least time there is", Bench.WRONG, timed(0, Bench.LEAST));
        Check.due("both ends", Bench.WRONG, timed(0, Bench.MOST, Bench.LEAST));
        Check.due("the greatest time there is", 3, timed(100000, Bench.MOST));
    }

    private static Bench withAuth() {
        Bench b = new Bench(1);
        b.vault.open(0);
        b.vault.policyAuth(0);
        return b;
    }

    private static final byte[] MINE = Bench.h(ZERO, Bench.one(2));

    private static byte[] branches(int n, int mine) {
        byte[] made = Bench.row(32 * n);
        System.arraycopy(MINE, 0, made, 32 * mine, 32);
        return made;
    }

    private static void orOfTwoToEight() {
        for (int n = 1; n <= 12; n++) {
            Bench b = withAuth();
            boolean good = n >= 2 && n <= 8;
            b.tape(branches(n, 0));
            Check.due(n + " digests", good ? 0 : Bench.REFUSED, b.vault.policyOr(0));
            Check.due("the tape is empty", 0, b.vault.look(7));
            Check.due("the DIGEST", good ? Bench.h(ZERO, Bench.one(5), branches(n, 0)) : MINE, b.digest(0));
        }
    }

    private static void orOfEachPlace() {
        for (int n = 2; n <= 8; n++) {
            for (int mine = 0; mine < n; mine++) {
                Bench b = withAuth();
                b.tape(branches(n, mine));
                Check.due("digest " + mine + " of " + n, 0, b.vault.policyOr(0));
                Check.due("the DIGEST", Bench.h(ZERO, Bench.one(5), branches(n, mine)), b.digest(0));
            }
        }
        Bench b = withAuth();
        b.tape(MINE).tape(MINE);
        Check.due("both of two", 0, b.vault.policyOr(0));
        Bench fresh = new Bench(1);
        fresh.vault.open(2);
        fresh.tape(Bench.row(32)).tape(ZERO);
        Check.due("a DIGEST of 0", 0, fresh.vault.policyOr(2));
        Check.due("OUT stays", 0, fresh.vault.octet(-1));
    }

    private static void orOfClosed() {
        byte[] tape = new byte[64];
        Twins.withKey(Scene.NOBODY).tape(tape).leaveButTape("policyOr(3)", Bench.REFUSED, v -> v.policyOr(3));
        Twins.withKey(Scene.THINGS).after(b -> {
            b.vault.unseal(2, 2);
            b.vault.end(0);
            b.tape(MINE).tape(MINE);
        }).leaveButTape("policyOr of one that was used", Bench.REFUSED, v -> v.policyOr(2));
        for (int s : NO_SESSION) {
            Twins.withKey(Scene.NOBODY).tape(tape)
                .leaveButTape("policyOr(" + s + ")", Bench.REFUSED, v -> v.policyOr(s));
        }
    }

    private static void orOfOtherTapes() {
        for (int size : new int[] {0, 1, 31, 32, 33, 63, 65, 95, 97, 255, 257, 287, 288, 289, 320, 384, 400}) {
            byte[] tape = Bench.row(size);
            for (int i = 0; i + 32 <= size; i += 32) {
                System.arraycopy(MINE, 0, tape, i, 32);
            }
            Twins.withKey(Scene.NOBODY).tape(tape)
                .leaveButTape("a tape of " + size, Bench.REFUSED, v -> v.policyOr(2));
        }
        for (int size : new int[] {64, 96, 256}) {
            Bench b = withAuth();
            Check.due("a tape of " + size, 0, b.tape(branches(size / 32, 0)).vault.policyOr(0));
        }
    }

    private static void orOfNone() {
        for (int i = 0; i < 64; i++) {
            byte[] tape = branches(2, i / 32);
            tape[i] ^= (byte) (1 << i % 8);
            Bench b = withAuth();
            b.tape(tape);
            Check.due("byte " + i + " is another", Bench.WRONG, b.vault.policyOr(0));
            Check.due("the tape is empty", 0, b.vault.look(7));
            Check.due("the DIGEST stays", MINE, b.digest(0));
        }
        byte[] off = Bench.cat(new byte[1], MINE, new byte[31]);
        Twins.withKey(Scene.NOBODY).tape(off).leaveButTape("a byte off its place", Bench.WRONG, v -> v.policyOr(2));
        Twins.withKey(Scene.NOBODY).tape(Bench.row(256)).leaveButTape("eight others", Bench.WRONG, v -> v.policyOr(2));
        Bench b = withAuth();
        b.tape(Bench.row(64)).tape(MINE);
        b.vault.end(64);
        Check.due("a third that was cut off", Bench.WRONG, b.vault.policyOr(0));
    }

    /** What object 0 answers to one step and a policyOr of it, after something has come between. */
    private static int orThen(Step step, Step change) {
        Bench b = new Bench(1);
        b.vault.open(0);
        step.on(b.vault, 0);
        byte[] digest = b.digest(0);
        b.tape(digest).tape(Bench.row(32));
        Check.due("policyOr", 0, b.vault.policyOr(0));
        b.things(0);
        b.vault.end(0);
        change.on(b.vault, 0);
        return b.vault.unseal(0, 0);
    }

    private static void orLeavesConditions() {
        Step none = (v, s) -> 0;
        Step registers = (v, s) -> v.policyState(s, 1);
        Step auth = (v, s) -> v.policyAuth(s);
        Step time = (v, s) -> v.policyTime(s, 9);
        Check.due("of registers", Bench.WRONG, orThen(registers, (v, s) -> v.extend(3)));
        Check.due("of registers, unchanged", 3, orThen(registers, none));
        Check.due("of the auth", Bench.DENIED, orThen(auth, (v, s) -> v.key()));
        Check.due("of the auth, the same KEY", 3, orThen(auth, none));
        Check.due("of a time", Bench.WRONG, orThen(time, (v, s) -> v.tick(10)));
        Check.due("of a time, just before", 3, orThen(time, (v, s) -> v.tick(9)));
        Check.due("of another code", Bench.WRONG, orThen((v, s) -> v.policyCode(s, 2), none));
        Check.due("of this code", 3, orThen((v, s) -> v.policyCode(s, 1), none));
        Bench b = new Bench(1);
        b.vault.open(0);
        b.vault.policyCode(0, 1);
        b.tape(b.digest(0)).tape(Bench.row(32)).vault.policyOr(0);
        Check.due("a code told again", Bench.REFUSED, b.vault.policyCode(0, 1));
    }

    private static void digestTells() {
        for (int s = 0; s < 4; s++) {
            Bench b = new Bench(1);
            b.vault.open(s);
            b.tape("stays");
            Check.due("digest(" + s + ")", 32, b.vault.digest(s));
            Check.due("octet(-1)", 32, b.vault.octet(-1));
            Check.due("OUT", ZERO, b.out());
            b.vault.policyAuth(s);
            Check.due("OUT is no DIGEST that changes", ZERO, b.out());
            Check.due("digest(" + s + ")", 32, b.vault.digest(s));
            Check.due("OUT", MINE, b.out());
            Check.due("the tape stays", 5, b.vault.look(7));
            Check.due("it is open still", 1, b.vault.look(5));
        }
    }
}
