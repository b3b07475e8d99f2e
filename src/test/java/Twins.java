import java.util.List;

/**
 * Two vaults with one past, that of Scene: one is asked for what it must refuse, the other is not, and all that both
 * tell afterwards must be the same, but for what the document says that the call does all the same.
 */
final class Twins {
    interface Call {
        int on(MeasuredVault v);
    }

    interface Act {
        void on(Bench b);
    }

    private final String word;
    private int failures = 2;
    private byte[] tape = Bench.text("tape");
    private Act more = b -> { };

    private Twins(String word) {
        this.word = word;
    }

    /** THE KEY is that of a word; there are two FAILURES, and four bytes on the TAPE. */
    static Twins withKey(String word) {
        return new Twins(word);
    }

    Twins failures(int n) {
        failures = n;
        return this;
    }

    Twins tape(byte[] bytes) {
        tape = bytes;
        return this;
    }

    Twins after(Act act) {
        more = act;
        return this;
    }

    private Bench make() {
        Bench b = Scene.make();
        b.fail(failures).key(word).tape(tape);
        more.on(b);
        return b;
    }

    /** The call answers so, and nothing is changed by it. */
    void leave(String what, int want, Call call) {
        compare(what, want, call, make());
    }

    /** The call answers so, and no more is changed than that the TAPE is empty. */
    void leaveButTape(String what, int want, Call call) {
        Bench still = make();
        still.vault.end(0);
        compare(what, want, call, still);
    }

    /** DENIED, and no more is changed than that FAILURES is 1 more; THE KEY must not be the owner's. */
    void deny(String what, Call call) {
        compare(what, Bench.DENIED, call, failed());
    }

    void denyButTape(String what, Call call) {
        Bench still = failed();
        still.vault.end(0);
        compare(what, Bench.DENIED, call, still);
    }

    private Bench failed() {
        Bench still = make();
        Check.due("a failure of the twin", Bench.DENIED, still.vault.unlock());
        return still;
    }

    private void compare(String what, int want, Call call, Bench still) {
        Bench asked = make();
        Check.due(what, want, call.on(asked.vault));
        List<String> due = Scene.tell(still);
        List<String> told = Scene.tell(asked);
        for (int i = 0; i < due.size(); i++) {
            if (!due.get(i).equals(told.get(i))) {
                Check.holds(what + " leaves all as it was: " + told.get(i) + ", due is " + due.get(i), false);
                return;
            }
        }
        Check.holds(what + " leaves all as it was", true);
    }
}
