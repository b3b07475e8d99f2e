/** What BY and OWNER'S answer to those who may not, on twins of the scene; the same for every call that asks. */
final class Asked {
    private static final int[] NO_SESSION = {4, 5, -2, -3, 256, Bench.LEAST, Bench.MOST};

    private Asked() {
    }

    /** A call of the scene's that is good by -1 if THE KEY is the things'; the things it is for have NO POLICY. */
    interface By {
        int on(MeasuredVault v, int by);
    }

    static void by(String name, boolean readsTape, By call) {
        refused(name + " by a CLOSED session", Bench.REFUSED, Twins.withKey(Scene.THINGS), readsTape,
            v -> call.on(v, 3));
        for (int by : NO_SESSION) {
            refused(name + " by " + by, Bench.REFUSED, Twins.withKey(Scene.THINGS), readsTape, v -> call.on(v, by));
            refused(name + " by " + by + ", LOCKED or not", Bench.REFUSED, Twins.withKey(Scene.NOBODY).failures(4),
                readsTape, v -> call.on(v, by));
        }
        for (int s = 0; s < 3; s++) {
            int by = s;
            refused(name + " by session " + s, Bench.WRONG, Twins.withKey(Scene.THINGS), readsTape,
                v -> call.on(v, by));
        }
        denied(name, Scene.NOBODY, readsTape, v -> call.on(v, -1));
        locked(name, Scene.THINGS, readsTape, v -> call.on(v, -1));
    }

    static void owner(String name, boolean readsTape, Twins.Call call) {
        denied(name, Scene.NOBODY, readsTape, call);
        denied(name, Scene.THINGS, readsTape, call);
        locked(name, Scene.OWNER, readsTape, call);
    }

    private static void denied(String name, String word, boolean readsTape, Twins.Call call) {
        for (int failures = 0; failures < 4; failures++) {
            Twins twins = Twins.withKey(word).failures(failures);
            if (readsTape) {
                twins.denyButTape(name + " by another KEY", call);
            } else {
                twins.deny(name + " by another KEY", call);
            }
        }
    }

    private static void locked(String name, String right, boolean readsTape, Twins.Call call) {
        for (int failures = 4; failures < 7; failures++) {
            for (String word : new String[] {right, Scene.NOBODY}) {
                refused(name + " of " + failures + " FAILURES, THE KEY of " + word, Bench.LOCKED,
                    Twins.withKey(word).failures(failures), readsTape, call);
            }
        }
        Bench b = Scene.make();
        b.fail(3).key(right).tape("tape");
        int answer = call.on(b.vault);
        Check.holds(name + " of 3 FAILURES is good: " + answer, answer >= 0);
        Check.due("FAILURES stay", 3, b.vault.look(0));
    }

    static void refused(String what, int want, Twins twins, boolean readsTape, Twins.Call call) {
        if (readsTape) {
            twins.leaveButTape(what, want, call);
        } else {
            twins.leave(what, want, call);
        }
    }
}
