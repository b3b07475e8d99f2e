import java.util.Random;
import java.util.Set;
import java.util.TreeMap;

/** Runs of random calls, 512 an object, on the class and on the model; every answer must be the same. */
public final class RandomRunsTest {
    private static final int RUNS = 1500;
    private static final int CALLS = 512;
    private static final int[] ODD = {Integer.MIN_VALUE, -257, -3, -2, -1, 4, 8, 9, 64, 65, 256, 401, Integer.MAX_VALUE};

    private final Random random;
    private final MeasuredVault vault;
    private final Model model;
    private final int run;
    private final TreeMap<Integer, Integer> seen;
    private int calls;

    private RandomRunsTest(int run, TreeMap<Integer, Integer> seen) {
        this.run = run;
        this.seen = seen;
        random = new Random(run);
        int seed = random.nextInt();
        vault = new MeasuredVault(seed);
        model = new Model(seed);
    }

    public static void main(String[] args) {
        TreeMap<Integer, Integer> seen = new TreeMap<>();
        for (int run = 0; run < RUNS && Check.wrongSoFar() == 0; run++) {
            new RandomRunsTest(run, seen).go();
        }
        everyAnswerWasSeen(seen);
        Check.finish("RandomRunsTest");
    }

    /** Else the runs would not reach what they are there to compare; and no call has an answer that is not its own. */
    private static void everyAnswerWasSeen(TreeMap<Integer, Integer> seen) {
        for (int which = 1; which <= Answers.calls(); which++) {
            Set<String> due = Answers.of(which - 1);
            String call = Answers.call(which - 1);
            Check.holds(call + " answered 0 or more", seen.containsKey(which * 10));
            for (String name : Answers.NAMES) {
                Check.holds(call + (due.contains(name) ? " answered " : " did not answer ") + name,
                    seen.containsKey(which * 10 - Answers.number(name)) == due.contains(name));
            }
        }
    }

    private void go() {
        while (calls < CALLS && Check.wrongSoFar() == 0) {
            step();
        }
    }

    private int below(int n) {
        return random.nextInt(n);
    }

    private int number(int usual) {
        return below(16) == 0 ? ODD[below(ODD.length)] : below(usual);
    }

    private int session() {
        return number(below(4) == 0 ? 4 : 2);
    }

    private int by() {
        return below(2) == 0 ? -1 : session();
    }

    /** One of few words, so that keys fit now and then. */
    private void word() {
        int which = below(5);
        if (which > 1) {
            call(1, 0x61616161 + which, 0x62626262, 0, 0, which);
            call(2, below(20) == 0 ? below(21) : which, 0, 0, 0, 0);
        }
    }

    private void step() {
        switch (below(14)) {
            case 0:
                call(2, 0, 0, 0, 0, 0);
                word();
                call(6, 0, 0, 0, 0, 0);
                break;
            case 1:
                call(6, 0, 0, 0, 0, 0);
                call(30, 0, 0, 0, 0, 0);
                break;
            case 2:
                word();
                call(18, below(3) == 0 ? -1 : session(), 0, 0, 0, 0);
                call(4, 0, 0, 0, 0, 0);
                call(19, 0, 0, 0, 0, 0);
                break;
            case 3:
                policy(session());
                break;
            case 4:
                branches(session());
                break;
            case 5:
                fill();
                break;
            case 6:
                word();
                call(22, number(8), below(3), 1 + below(10), below(2) == 0 ? -1 : session(), 0);
                break;
            case 7:
            case 8:
                call(24 + below(5), number(8), below(2), 0, 0, 0, true);
                break;
            case 9:
                call(3, below(250) - 2, 0, 0, 0, 0);
                break;
            default:
                any();
                break;
        }
    }

    /** Few policies, told in one order, so that digests fit now and then. */
    private void policy(int s) {
        call(11, s, 0, 0, 0, 0);
        if (below(3) == 0) {
            call(12, s, below(2), 0, 0, 0);
        }
        if (below(3) == 0) {
            call(13, s, 0, 0, 0, 0);
        }
        if (below(3) == 0) {
            call(14, s, 1 + below(6), 0, 0, 0);
        }
        if (below(3) == 0) {
            call(15, s, 1000 * below(3), 0, 0, 0);
        }
    }

    private void branches(int s) {
        call(2, 0, 0, 0, 0, 0);
        for (int i = below(10); i >= 0; i--) {
            call(17, below(3) == 0 ? session() : s, 0, 0, 0, 0);
            call(4, 0, 0, 0, 0, 0);
        }
        call(16, s, 0, 0, 0, 0);
    }

    private void fill() {
        for (int i = below(24); i >= 0; i--) {
            call(1, random.nextInt(), random.nextInt(), random.nextInt(), random.nextInt(), random.nextInt());
        }
        if (below(2) == 0) {
            call(2, below(400), 0, 0, 0, 0);
        }
        int[] readers = {5, 6, 7, 10, 16, 18, 19, 22, 24, 26, 29};
        call(readers[below(readers.length)], number(4), number(4), number(4), number(4), 0);
    }

    private void any() {
        int which = 1 + below(34);
        if (which == 31 && below(8) != 0 || which == 33 && below(4) != 0) {
            which = 34;
        }
        if (which == 32) {
            call(32, below(4) == 0 ? ODD[below(ODD.length)] : below(150), 0, 0, 0, 0);
        } else if (which >= 24 && which <= 28 || which == 20) {
            call(which, number(which == 20 ? 4 : 8), below(5), 0, 0, 0, true);
        } else if (which == 12 || which == 9 || which == 10) {
            call(which, session(), random.nextInt(), 0, 0, 0);
        } else {
            call(which, number(8), number(8), number(8), session(), 0);
        }
    }

    private void call(int which, int a, int b, int c, int d, int e, boolean asks) {
        int by = asks ? by() : b;
        call(which, a, which == 24 ? b : by, which == 24 ? by : c, d, e);
    }

    private void call(int which, int a, int b, int c, int d, int e) {
        if (calls >= CALLS || Check.wrongSoFar() > 0) {
            return;
        }
        calls++;
        int want = ofModel(which, a, b, c, d, e);
        int got = ofVault(which, a, b, c, d, e);
        seen.merge(which * 10 - Math.min(0, want), 1, Integer::sum);
        Check.due("run " + run + ", call " + calls + ": " + which + "(" + a + ", " + b + ", " + c + ", " + d + ", " + e + ")",
            want, got);
        boolean tells = which == 5 || which == 9 || which == 10 || which >= 17 && which <= 20 || which == 27;
        for (int i = 0; tells && want > 0 && i < 3; i++) {
            call(3, below(want), 0, 0, 0, 0);
        }
    }

    private int ofVault(int which, int a, int b, int c, int d, int e) {
        switch (which) {
            case 1: return vault.feed(a, b, c, d, e);
            case 2: return vault.end(a);
            case 3: return vault.octet(a);
            case 4: return vault.back();
            case 5: return vault.hash();
            case 6: return vault.key();
            case 7: return vault.extend(a);
            case 8: return vault.reset(a);
            case 9: return vault.state(b);
            case 10: return vault.quote(b);
            case 11: return vault.open(a);
            case 12: return vault.policyState(a, b);
            case 13: return vault.policyAuth(a);
            case 14: return vault.policyCode(a, b);
            case 15: return vault.policyTime(a, b);
            case 16: return vault.policyOr(a);
            case 17: return vault.digest(a);
            case 18: return vault.seal(a);
            case 19: return vault.load();
            case 20: return vault.unseal(a, b);
            case 21: return vault.flush(a);
            case 22: return vault.define(a, b, c, d);
            case 23: return vault.undefine(a);
            case 24: return vault.write(a, b, c);
            case 25: return vault.count(a, b);
            case 26: return vault.chain(a, b);
            case 27: return vault.read(a, b);
            case 28: return vault.shut(a, b);
            case 29: return vault.own();
            case 30: return vault.unlock();
            case 31: return vault.clear();
            case 32: return vault.tick(a);
            case 33: return vault.restart();
            default: return vault.look(a);
        }
    }

    private int ofModel(int which, int a, int b, int c, int d, int e) {
        switch (which) {
            case 1: return model.feed(a, b, c, d, e);
            case 2: return model.end(a);
            case 3: return model.octet(a);
            case 4: return model.back();
            case 5: return model.hash();
            case 6: return model.key();
            case 7: return model.extend(a);
            case 8: return model.reset(a);
            case 9: return model.state(b);
            case 10: return model.quote(b);
            case 11: return model.open(a);
            case 12: return model.policyState(a, b);
            case 13: return model.policyAuth(a);
            case 14: return model.policyCode(a, b);
            case 15: return model.policyTime(a, b);
            case 16: return model.policyOr(a);
            case 17: return model.digest(a);
            case 18: return model.seal(a);
            case 19: return model.load();
            case 20: return model.unseal(a, b);
            case 21: return model.flush(a);
            case 22: return model.define(a, b, c, d);
            case 23: return model.undefine(a);
            case 24: return model.write(a, b, c);
            case 25: return model.count(a, b);
            case 26: return model.chain(a, b);
            case 27: return model.read(a, b);
            case 28: return model.shut(a, b);
            case 29: return model.own();
            case 30: return model.unlock();
            case 31: return model.clear();
            case 32: return model.tick(a);
            case 33: return model.restart();
            default: return model.look(a);
        }
    }
}
