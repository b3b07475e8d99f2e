/** Promises 12 to 18: open, policyState, policyAuth, policyCode, policyTime, policyOr, digest. */
public final class SessionsTest {
    private static final byte[] ZERO = new byte[32];

    private SessionsTest() {
    }

    public static void main(String[] args) {
        promise12Open();
        promise13PolicyState();
        promise13Condition();
        promise14PolicyAuth();
        promise14Condition();
        promise15PolicyCode();
        promise15Condition();
        promise16PolicyTime();
        promise16Condition();
        promise17PolicyOr();
        promise17Wrong();
        promise17ConditionsStay();
        promise18Digest();
        otherSessionsAreRefused();
        Check.finish("SessionsTest");
    }

    private static void promise12Open() {
        Bench b = new Bench(1);
        for (int s = 0; s < 4; s++) {
            Check.due("open(" + s + ")", 0, b.vault.open(s));
            Check.due("open sessions", s + 1, b.vault.look(5));
            Check.due("a DIGEST of 0", ZERO, b.digest(s));
        }
        Check.due("open(4)", Bench.REFUSED, b.vault.open(4));
        Check.due("open(-1)", Bench.REFUSED, b.vault.open(-1));
        for (int far : Bench.FAR) {
            Check.due("open(" + far + ")", Bench.REFUSED, b.vault.open(far));
        }
        Check.due("open sessions", 4, b.vault.look(5));
        b.vault.policyAuth(1);
        b.vault.policyCode(1, 5);
        b.vault.policyTime(1, -1);
        b.vault.policyState(1, 0);
        Check.due("open again", 0, b.vault.open(1));
        Check.due("a DIGEST of 0 again", ZERO, b.digest(1));
        Check.due("no condition of a code again", 0, b.vault.policyCode(1, 1));
        Check.due("sealed", 0, b.sealed("abc", 1));
        b.vault.reset(7);
        b.key("other");
        Check.due("no old condition holds it", 3, b.vault.unseal(0, 1));
    }

    private static void promise13PolicyState() {
        Bench b = new Bench(1);
        b.tape("boot");
        b.vault.extend(1);
        b.vault.open(2);
        b.tape("stays");
        Check.due("policyState", 0, b.vault.policyState(2, 0x7f03));
        byte[] state = Bench.h(ZERO, Bench.h(ZERO, Bench.h(Bench.text("boot"))));
        byte[] want = Bench.h(ZERO, Bench.one(1), Bench.one(3), state);
        Check.due("the DIGEST", want, b.digest(2));
        b.vault.policyState(2, -256);
        want = Bench.h(want, Bench.one(1), Bench.one(0), Bench.h());
        Check.due("the DIGEST of two", want, b.digest(2));
        Check.due("the tape stays", 5, b.vault.look(7));
        Check.due("CLOSED", Bench.REFUSED, b.vault.policyState(0, 1));
    }

    private static void promise13Condition() {
        Bench b = new Bench(1);
        b.vault.open(0);
        b.vault.policyState(0, 1);
        b.sealed("abc", 0);
        b.vault.extend(8);
        b.vault.reset(0);
        b.vault.state(1);
        Check.due("refused changes are none", 3, b.vault.unseal(0, 0));
        for (int change = 0; change < 3; change++) {
            b.vault.open(0);
            b.vault.policyState(0, 1);
            int ignored = change == 0 ? b.vault.extend(5) : b.vault.reset(5 + change);
            Check.due("a change of another register: " + ignored, Bench.WRONG, b.vault.unseal(0, 0));
        }
        b.vault.open(0);
        b.vault.policyState(0, 1);
        Check.due("told after all changes", 3, b.vault.unseal(0, 0));
        b.vault.open(1);
        b.vault.policyState(1, 1);
        b.vault.policyState(1, 1);
        b.sealed("four", 1);
        b.vault.open(1);
        b.vault.policyState(1, 1);
        b.vault.reset(7);
        b.vault.policyState(1, 1);
        Check.due("told again: since the first time", Bench.WRONG, b.vault.unseal(1, 1));
        b.vault.open(1);
        b.vault.policyState(1, 1);
        b.vault.policyState(1, 1);
        Check.due("told twice", 4, b.vault.unseal(1, 1));
    }

    private static void promise14PolicyAuth() {
        Bench b = new Bench(1);
        b.vault.open(3);
        Check.due("policyAuth", 0, b.vault.policyAuth(3));
        byte[] want = Bench.h(ZERO, Bench.one(2));
        Check.due("the DIGEST", want, b.digest(3));
        b.vault.policyAuth(3);
        Check.due("the DIGEST of two", Bench.h(want, Bench.one(2)), b.digest(3));
        Check.due("CLOSED", Bench.REFUSED, b.vault.policyAuth(2));
    }

    private static void promise14Condition() {
        Bench b = new Bench(1);
        b.key("right");
        b.vault.open(0);
        b.vault.policyAuth(0);
        b.sealed("abc", 0);
        b.key("left");
        Check.due("another KEY", Bench.DENIED, b.vault.unseal(0, 0));
        Check.due("a failure", 1, b.vault.look(0));
        Check.due("it stays open", 1, b.vault.look(5));
        b.vault.policyCode(0, 2);
        Check.due("WRONG comes before DENIED", Bench.WRONG, b.vault.unseal(0, 0));
        Check.due("no failure", 1, b.vault.look(0));
        b.vault.open(0);
        b.vault.policyAuth(0);
        b.fail(3);
        b.key("right");
        Check.due("LOCKED", Bench.LOCKED, b.vault.unseal(0, 0));
        Check.due("it stays open", 1, b.vault.look(5));
        b.vault.tick(100);
        Check.due("not LOCKED", 3, b.vault.unseal(0, 0));
        Check.due("CLOSED then", 0, b.vault.look(5));
    }

    private static void promise15PolicyCode() {
        Bench b = new Bench(1);
        for (int code = 1; code <= 6; code++) {
            b.vault.open(0);
            Check.due("policyCode(0, " + code + ")", 0, b.vault.policyCode(0, code));
            Check.due("the DIGEST", Bench.h(ZERO, Bench.one(3), Bench.one(code)), b.digest(0));
            Check.due("such a condition again", Bench.REFUSED, b.vault.policyCode(0, code));
            Check.due("the DIGEST stays", Bench.h(ZERO, Bench.one(3), Bench.one(code)), b.digest(0));
        }
        b.vault.open(0);
        for (int code : new int[] {0, 7, -1, 257, 259, Integer.MIN_VALUE, Integer.MAX_VALUE}) {
            Check.due("policyCode(0, " + code + ")", Bench.REFUSED, b.vault.policyCode(0, code));
        }
        Check.due("the DIGEST stays", ZERO, b.digest(0));
        Check.due("no condition was made", 0, b.vault.policyCode(0, 6));
        Check.due("CLOSED", Bench.REFUSED, b.vault.policyCode(1, 1));
    }

    private static void promise15Condition() {
        for (int told = 1; told <= 6; told++) {
            Bench b = new Bench(1);
            b.vault.open(0);
            b.vault.policyCode(0, told);
            b.sealed("", 0);
            b.vault.define(0, 0, 4, 0);
            b.vault.define(1, 1, 0, 0);
            b.vault.define(2, 2, 0, 0);
            b.vault.write(0, 0, -1);
            for (int code = 1; code <= 6; code++) {
                b.vault.open(0);
                b.vault.policyCode(0, told);
                int good = code == 3 ? 1 : code == 5 ? 4 : 0;
                Check.due("code " + code + " by " + told, code == told ? good : Bench.WRONG,
                    Bench.use(b.vault, code, 0));
                Check.due("CLOSED if good", code == told ? 0 : 1, b.vault.look(5));
            }
        }
    }

    private static void promise16PolicyTime() {
        Bench b = new Bench(1);
        byte[] want = ZERO;
        b.vault.open(0);
        for (int time : new int[] {0, 1, 0x12345678, -1, Integer.MIN_VALUE, Integer.MAX_VALUE}) {
            Check.due("policyTime(0, " + time + ")", 0, b.vault.policyTime(0, time));
            want = Bench.h(want, Bench.one(4), Bench.four(time));
            Check.due("the DIGEST", want, b.digest(0));
        }
        Check.due("CLOSED", Bench.REFUSED, b.vault.policyTime(1, 1));
    }

    private static int timed(int clock, int... times) {
        Bench b = new Bench(1);
        b.vault.open(0);
        for (int time : times) {
            b.vault.policyTime(0, time);
        }
        b.sealed("abc", 0);
        b.vault.tick(clock);
        return b.vault.unseal(0, 0);
    }

    private static void promise16Condition() {
        Check.due("THE CLOCK is below", 3, timed(49, 50));
        Check.due("THE CLOCK is it", 3, timed(50, 50));
        Check.due("THE CLOCK is above", Bench.WRONG, timed(51, 50));
        Check.due("a time of 0", 3, timed(0, 0));
        Check.due("a time below 0", Bench.WRONG, timed(0, -1));
        Check.due("the least, told first", Bench.WRONG, timed(51, 50, 90));
        Check.due("the least, told last", Bench.WRONG, timed(51, 90, 50));
        Check.due("the least of three", 3, timed(50, 90, 50, 70));
        Check.due("the greatest time", 3, timed(100000, Integer.MAX_VALUE));
    }

    private static void promise17PolicyOr() {
        for (int branches = 0; branches <= 12; branches++) {
            for (int more = -1; more <= 1; more++) {
                int size = branches * 32 + more;
                if (size < 0) {
                    continue;
                }
                Bench b = new Bench(1);
                b.vault.open(0);
                b.vault.policyAuth(0);
                byte[] mine = b.digest(0);
                byte[] tape = Bench.row(size);
                boolean has = more == 0 && branches >= 2 && branches <= 8;
                if (size >= 32) {
                    System.arraycopy(mine, 0, tape, Math.max(0, branches - 1) / 2 * 32, 32);
                }
                b.tape(tape);
                Check.due("policyOr of " + size, has ? 0 : Bench.REFUSED, b.vault.policyOr(0));
                Check.due("the tape is empty", 0, b.vault.look(7));
                Check.due("the DIGEST", has ? Bench.h(ZERO, Bench.one(5), tape) : mine, b.digest(0));
            }
        }
        Bench b = new Bench(1);
        b.tape(new byte[64]);
        Check.due("CLOSED", Bench.REFUSED, b.vault.policyOr(0));
        Check.due("the tape is empty", 0, b.vault.look(7));
    }

    private static void promise17Wrong() {
        for (int place = 0; place < 3; place++) {
            Bench b = new Bench(1);
            b.vault.open(0);
            b.vault.policyAuth(0);
            byte[] mine = b.digest(0);
            byte[] tape = Bench.row(96);
            System.arraycopy(mine, 0, tape, place * 32, 32);
            tape[place * 32 + (place == 0 ? 31 : 0)] ^= 1;
            b.tape(tape);
            Check.due("none of them", Bench.WRONG, b.vault.policyOr(0));
            Check.due("the tape is empty", 0, b.vault.look(7));
            Check.due("the DIGEST stays", mine, b.digest(0));
            System.arraycopy(mine, 0, tape, place * 32, 32);
            b.tape(tape);
            Check.due("digest " + place + " of them", 0, b.vault.policyOr(0));
            Check.due("the DIGEST", Bench.h(ZERO, Bench.one(5), tape), b.digest(0));
        }
        Bench b = new Bench(1);
        b.vault.open(0);
        b.vault.policyAuth(0);
        byte[] tape = Bench.cat(new byte[16], b.digest(0), new byte[16]);
        b.tape(tape);
        Check.due("not at its place", Bench.WRONG, b.vault.policyOr(0));
        b.tape(Bench.row(64)).tape(b.digest(0));
        b.vault.end(64);
        Check.due("cut away from the tape", Bench.WRONG, b.vault.policyOr(0));
        b.vault.open(1);
        b.tape(new byte[64]);
        Check.due("a DIGEST of 0 may be one of them", 0, b.vault.policyOr(1));
    }

    private static void promise17ConditionsStay() {
        Bench b = new Bench(1);
        byte[] timed = Bench.h(ZERO, Bench.one(4), Bench.four(10));
        byte[] coded = Bench.h(ZERO, Bench.one(3), Bench.one(1));
        b.vault.open(0);
        b.vault.policyTime(0, 10);
        b.tape(timed).tape(coded);
        Check.due("policyOr", 0, b.vault.policyOr(0));
        b.sealed("abc", 0);
        b.vault.tick(11);
        Check.due("the condition stays", Bench.WRONG, b.vault.unseal(0, 0));
        b.vault.open(1);
        b.vault.policyCode(1, 1);
        b.tape(timed).tape(coded);
        b.vault.policyOr(1);
        Check.due("by the other branch", 3, b.vault.unseal(0, 1));
    }

    private static void promise18Digest() {
        Bench b = new Bench(1);
        b.vault.open(1);
        b.vault.open(2);
        b.vault.policyAuth(2);
        b.tape("stays");
        Check.due("digest(1)", 32, b.vault.digest(1));
        Check.due("OUT is 0", ZERO, b.out());
        Check.due("digest(2)", 32, b.vault.digest(2));
        Check.due("OUT", Bench.h(ZERO, Bench.one(2)), b.out());
        Check.due("digest of a CLOSED one", Bench.REFUSED, b.vault.digest(0));
        Check.due("OUT stays", Bench.h(ZERO, Bench.one(2)), b.out());
        Check.due("the tape stays", 5, b.vault.look(7));
        b.vault.restart();
        Check.due("digest after restart", Bench.REFUSED, b.vault.digest(2));
    }

    private static void otherSessionsAreRefused() {
        Bench b = new Bench(1);
        for (int s = 0; s < 4; s++) {
            b.vault.open(s);
        }
        int[] others = {-1, 4, 5, 8, Integer.MIN_VALUE, Integer.MAX_VALUE};
        for (int s : others) {
            Check.due("policyState(" + s + ")", Bench.REFUSED, b.vault.policyState(s, 1));
            Check.due("policyAuth(" + s + ")", Bench.REFUSED, b.vault.policyAuth(s));
            Check.due("policyCode(" + s + ")", Bench.REFUSED, b.vault.policyCode(s, 1));
            Check.due("policyTime(" + s + ")", Bench.REFUSED, b.vault.policyTime(s, 1));
            Check.due("digest(" + s + ")", Bench.REFUSED, b.vault.digest(s));
            b.tape(new byte[64]);
            Check.due("policyOr(" + s + ")", Bench.REFUSED, b.vault.policyOr(s));
        }
    }
}
