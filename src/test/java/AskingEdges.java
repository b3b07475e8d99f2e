/** What the document says under "Terms" of things, BY, LOCKED and OWNER'S, sentence by sentence. */
final class AskingEdges {
    private static final byte[] ZERO = new byte[32];

    private interface Step {
        int on(MeasuredVault v, int s);
    }

    private static final Step REGISTERS = (v, s) -> v.policyState(s, 1);
    private static final Step AUTH = (v, s) -> v.policyAuth(s);
    private static final Step TIME = (v, s) -> v.policyTime(s, 50);

    private AskingEdges() {
    }

    static void tell(Sentences says) {
        says.term("19 to 29", "THINGS (objects and values) have an AUTH, and a POLICY, 32 bytes; "
            + "it is NO POLICY if all are 0.", AskingEdges::noPolicy);
        says.term("21, 25 to 29", "A call that says BY with a code asks of a thing: by -1: THE KEY is its AUTH: "
            + "else DENIED, and FAILURES is 1 more", AskingEdges::byTheKey);
        says.term("21, 25 to 29", "by a session: CLOSED: REFUSED", AskingEdges::byAClosedOne);
        says.term("21, 25 to 29", "else WRONG if the thing has NO POLICY", AskingEdges::byNoPolicy);
        says.term("21, 25 to 29", "or the DIGEST is not its POLICY", AskingEdges::byAnotherDigest);
        says.term("13", "or a CONDITION is not as told: of registers: none of all registers was changed "
            + "(by extend or reset) since it was told", AskingEdges::byRegisters);
        says.term("15", "of a code: this code", AskingEdges::byCode);
        says.term("16", "of a time: THE CLOCK is not above it", AskingEdges::byTime);
        says.term("14", "of the auth: as by -1 (DENIED, too, last of all).", AskingEdges::byAuth);
        says.term("21, 25 to 29", "A session BY which a call was, and that was good for it, is CLOSED then",
            AskingEdges::closedThen);
        says.term("19, 23", "(one whose DIGEST seal or define takes stays as it is).", AskingEdges::takenStays);
        says.term("14, 21, 23 to 32", "LOCKED if FAILURES are 4 or more, before anything is compared with THE KEY "
            + "(BY -1, by the condition of auth, and by the owner).", AskingEdges::locked);
        says.term("21, 25 to 29", "BY another number: REFUSED.", AskingEdges::byAnotherNumber);
        says.term("21 to 32", "(What is told of a call comes first, BY and OWNER'S last.)", AskingEdges::askedLast);
        says.term("23, 24, 30, 32", "OWNER'S calls ask: THE KEY is the owner's AUTH: else DENIED, and FAILURES "
            + "is 1 more; LOCKED as told.", AskingEdges::askedOfTheOwner);
    }

    /** A vault with the things of Bench under a policy of steps; session 0 has made those steps and is open. */
    private static Bench under(Step... steps) {
        Bench b = new Bench(9);
        follow(b, 0, steps);
        return b.things(0);
    }

    private static void follow(Bench b, int s, Step... steps) {
        b.vault.open(s);
        for (Step step : steps) {
            step.on(b.vault, s);
        }
    }

    private static void noPolicy() {
        for (int code = 1; code <= 6; code++) {
            Bench b = new Bench(9).things(-1);
            b.vault.open(1);
            Check.due("NO POLICY, code " + code, Bench.WRONG, Bench.use(b.vault, code, 1));
            Check.due("its AUTH, code " + code, Bench.good(code), Bench.use(b.vault, code, -1));
            Bench zero = new Bench(9);
            zero.vault.open(0);
            zero.things(0);
            Check.due("a DIGEST of 0 is NO POLICY, code " + code, Bench.WRONG, Bench.use(zero.vault, code, 0));
            Bench policy = under(TIME);
            Check.due("a POLICY, code " + code, Bench.good(code), Bench.use(policy.vault, code, 0));
            Check.due("its AUTH, too, code " + code, code == 3 ? 2 : Bench.good(code),
                Bench.use(policy.vault, code, -1));
        }
    }

    private static void byTheKey() {
        byte[] seed = Bench.seedOf(9);
        for (int i = -1; i < 32; i++) {
            byte[] auth = Bench.h();
            if (i >= 0) {
                auth[i] ^= (byte) (1 << i % 8);
            }
            Bench b = new Bench(9);
            b.tape(Bench.blob(seed, 0, ZERO, auth, 3, Bench.text("abc"))).vault.load();
            Check.due("AUTH with byte " + i + " another", i < 0 ? 3 : Bench.DENIED, b.vault.unseal(0, -1));
            Check.due("FAILURES", i < 0 ? 0 : 1, b.vault.look(0));
        }
        for (int code = 1; code <= 6; code++) {
            Bench b = new Bench(9).things(-1);
            b.key(Scene.NOBODY);
            Check.due("code " + code, Bench.DENIED, Bench.use(b.vault, code, -1));
            Check.due("FAILURES", 1, b.vault.look(0));
            b.key("");
            Check.due("the owner's KEY, code " + code, Bench.DENIED, Bench.use(b.vault, code, -1));
            Check.due("FAILURES", 2, b.vault.look(0));
            b.key(Scene.THINGS);
            Check.due("its KEY, code " + code, Bench.good(code), Bench.use(b.vault, code, -1));
            Check.due("FAILURES stay", 2, b.vault.look(0));
        }
    }

    private static void byAClosedOne() {
        for (int code = 1; code <= 6; code++) {
            Bench b = under(TIME);
            for (int by = 1; by < 4; by++) {
                Check.due("never open, code " + code, Bench.REFUSED, Bench.use(b.vault, code, by));
            }
            Bench.use(b.vault, code, 0);
            Check.due("used, code " + code, Bench.REFUSED, Bench.use(b.vault, code, 0));
            Check.due("no failure", 0, b.vault.look(0));
            follow(b, 0, TIME);
            b.vault.restart();
            Check.due("after restart, code " + code, code == 1 ? Bench.NONE : Bench.REFUSED,
                Bench.use(b.vault, code, 0));
        }
    }

    private static void byNoPolicy() {
        for (int code = 1; code <= 6; code++) {
            for (int s = 0; s < 4; s++) {
                Bench b = new Bench(9).things(-1);
                b.vault.open(s);
                Check.due("a DIGEST of 0, code " + code, Bench.WRONG, Bench.use(b.vault, code, s));
                b.vault.policyAuth(s);
                Check.due("a DIGEST, code " + code, Bench.WRONG, Bench.use(b.vault, code, s));
                Check.due("it stays open", 1, b.vault.look(5));
                Check.due("no failure", 0, b.vault.look(0));
            }
        }
    }

    private static void byAnotherDigest() {
        byte[] digest = Bench.h(ZERO, Bench.one(2));
        for (int i = -1; i < 32; i++) {
            byte[] policy = digest.clone();
            if (i >= 0) {
                policy[i] ^= (byte) (1 << i % 8);
            }
            Bench b = new Bench(9);
            follow(b, 2, AUTH);
            b.tape(Bench.blob(Bench.seedOf(9), 0, policy, Bench.h(), 3, Bench.text("abc"))).vault.load();
            Check.due("POLICY with byte " + i + " another", i < 0 ? 3 : Bench.WRONG, b.vault.unseal(0, 2));
            Check.due("open sessions", i < 0 ? 0 : 1, b.vault.look(5));
        }
        for (int code = 1; code <= 6; code++) {
            Bench b = under(TIME, AUTH);
            follow(b, 1, TIME);
            Check.due("a step too few, code " + code, Bench.WRONG, Bench.use(b.vault, code, 1));
            b.vault.policyAuth(1);
            b.vault.policyAuth(1);
            Check.due("a step too many, code " + code, Bench.WRONG, Bench.use(b.vault, code, 1));
            follow(b, 1, AUTH, TIME);
            Check.due("in another order, code " + code, Bench.WRONG, Bench.use(b.vault, code, 1));
            follow(b, 1);
            Check.due("without a step, code " + code, Bench.WRONG, Bench.use(b.vault, code, 1));
            follow(b, 1, TIME, AUTH);
            Check.due("the same steps, code " + code, Bench.good(code), Bench.use(b.vault, code, 1));
        }
    }

    private static void afterChange(String what, int code, boolean counts, Twins.Act change) {
        Bench b = under(REGISTERS);
        change.on(b);
        Check.due(what + ", code " + code, counts ? Bench.WRONG : Bench.good(code), Bench.use(b.vault, code, 0));
        Check.due("open sessions", counts ? 1 : 0, b.vault.look(5));
    }

    private static void byRegisters() {
        for (int code = 1; code <= 6; code++) {
            for (int r = 0; r < 8; r++) {
                int which = r;
                afterChange("extend(" + r + ")", code, true, b -> b.vault.extend(which));
            }
            for (int r = 0; r < 8; r++) {
                int which = r;
                afterChange("reset(" + r + ")", code, r > 5, b -> b.vault.reset(which));
            }
            afterChange("extend and reset", code, true, b -> {
                b.vault.extend(7);
                b.vault.reset(7);
            });
            afterChange("extend(8)", code, false, b -> b.vault.extend(8));
            afterChange("extend(-1)", code, false, b -> b.vault.extend(-1));
            afterChange("state, quote and tick", code, false, b -> {
                b.vault.state(255);
                b.vault.quote(255);
                b.vault.tick(1000);
            });
        }
        Bench b = new Bench(9);
        b.vault.extend(0);
        follow(b, 0, REGISTERS);
        b.things(0);
        Check.due("a change before it was told", 3, b.vault.unseal(0, 0));
    }

    private static void byCode() {
        for (int told = 1; told <= 6; told++) {
            for (int code = 1; code <= 6; code++) {
                int which = told;
                Bench b = under(AUTH, (v, s) -> v.policyCode(s, which), TIME);
                Check.due("code " + code + " of " + told, code == told ? Bench.good(code) : Bench.WRONG,
                    Bench.use(b.vault, code, 0));
                Check.due("no failure", 0, b.vault.look(0));
            }
        }
    }

    private static void byTime() {
        for (int code = 1; code <= 6; code++) {
            for (int clock : new int[] {0, 49, 50, 51, 100000}) {
                Bench b = under(TIME);
                b.vault.tick(clock);
                boolean good = clock <= 50;
                Check.due("at " + clock + ", code " + code, good ? Bench.good(code) : Bench.WRONG,
                    Bench.use(b.vault, code, 0));
                Check.due("open sessions", good ? 0 : 1, b.vault.look(5));
            }
        }
    }

    private static void byAuth() {
        for (int code = 1; code <= 6; code++) {
            Bench b = under(REGISTERS, AUTH, TIME);
            b.key(Scene.NOBODY);
            Check.due("another KEY, code " + code, Bench.DENIED, Bench.use(b.vault, code, 0));
            Check.due("FAILURES", 1, b.vault.look(0));
            Check.due("it stays open", 1, b.vault.look(5));
            b.vault.tick(51);
            Check.due("and too late, code " + code, Bench.WRONG, Bench.use(b.vault, code, 0));
            b.vault.open(0);
            Check.due("and another DIGEST, code " + code, Bench.WRONG, Bench.use(b.vault, code, 0));
            Check.due("FAILURES stay", 1, b.vault.look(0));
            Bench changed = under(REGISTERS, AUTH, TIME);
            changed.key(Scene.NOBODY);
            changed.vault.extend(0);
            Check.due("and a change, code " + code, Bench.WRONG, Bench.use(changed.vault, code, 0));
            Check.due("FAILURES stay", 0, changed.vault.look(0));
            int other = code % 6 + 1;
            Bench coded = under(AUTH, (v, s) -> v.policyCode(s, other));
            coded.key(Scene.NOBODY);
            Check.due("and another code, code " + code, Bench.WRONG, Bench.use(coded.vault, code, 0));
            Check.due("FAILURES stay", 0, coded.vault.look(0));
            Bench good = under(REGISTERS, AUTH, TIME);
            good.key(Scene.NOBODY);
            Bench.use(good.vault, code, 0);
            good.key(Scene.THINGS);
            Check.due("its KEY then, code " + code, Bench.good(code), Bench.use(good.vault, code, 0));
            Check.due("CLOSED then", 0, good.vault.look(5));
        }
    }

    private static void closedThen() {
        for (int code = 1; code <= 6; code++) {
            for (int by = 0; by < 4; by++) {
                Bench b = under(TIME);
                for (int s = 0; s < 4; s++) {
                    follow(b, s, TIME);
                }
                Check.due("code " + code, Bench.good(code), Bench.use(b.vault, code, by));
                for (int s = 0; s < 4; s++) {
                    Check.due("session " + s + " after " + by, s == by ? Bench.REFUSED : 32, b.vault.digest(s));
                }
            }
            Bench key = under(TIME);
            Bench.use(key.vault, code, -1);
            Check.due("by -1 none is CLOSED", 1, key.vault.look(5));
        }
        Bench none = under(TIME);
        Check.due("NONE", Bench.NONE, none.vault.unseal(3, 0));
        Check.due("NONE", Bench.NONE, none.vault.count(0, 0));
        Check.due("REFUSED", Bench.REFUSED, none.vault.write(0, 5, 0));
        none.vault.shut(0, -1);
        Check.due("FULL", Bench.FULL, none.vault.write(0, 0, 0));
        Check.due("it stays open by calls that ask nothing", 1, none.vault.look(5));
    }

    private static void takenStays() {
        for (int by = 0; by < 4; by++) {
            Bench b = new Bench(9);
            follow(b, by, REGISTERS, AUTH, TIME);
            byte[] digest = b.digest(by);
            b.things(by);
            Check.due("open sessions", 1, b.vault.look(5));
            Check.due("the DIGEST", digest, b.digest(by));
            Check.due("its conditions are as told", 3, b.vault.unseal(0, by));
            follow(b, by, REGISTERS, AUTH, TIME);
            b.vault.seal(by);
            b.key(Scene.NOBODY);
            Check.due("the condition of the auth stays", Bench.DENIED, b.vault.unseal(0, by));
            b.key(Scene.THINGS);
            b.vault.reset(6);
            Check.due("the condition of registers stays", Bench.WRONG, b.vault.unseal(0, by));
            follow(b, by, REGISTERS, AUTH, TIME);
            b.vault.seal(by);
            b.vault.tick(51);
            Check.due("the condition of a time stays", Bench.WRONG, b.vault.unseal(0, by));
            b.key("").vault.define(7, 0, 4, by);
            Check.due("open sessions after define", 1, b.vault.look(5));
        }
        Bench b = Scene.make();
        Check.due("a refused seal leaves it, too", Bench.REFUSED, b.tape(Bench.row(129)).vault.seal(0));
        Check.due("as does a denied define", Bench.DENIED, b.vault.define(7, 0, 4, 0));
        Check.due("object 0", 5, b.vault.unseal(0, 0));
    }

    private static void locked() {
        for (int code = 1; code <= 6; code++) {
            for (int failures = 0; failures < 7; failures++) {
                boolean locks = failures >= 4;
                Bench key = under(AUTH);
                key.fail(failures).key(Scene.THINGS);
                Check.due("by -1 after " + failures, locks ? Bench.LOCKED : Bench.good(code),
                    Bench.use(key.vault, code, -1));
                Check.due("FAILURES stay", failures, key.vault.look(0));
                Bench auth = under(AUTH);
                auth.fail(failures).key(Scene.THINGS);
                Check.due("by the auth after " + failures, locks ? Bench.LOCKED : Bench.good(code),
                    Bench.use(auth.vault, code, 0));
                Check.due("FAILURES stay", failures, auth.vault.look(0));
                Check.due("open sessions", locks ? 1 : 0, auth.vault.look(5));
                for (int by = -1; by <= 0; by++) {
                    Bench wrong = under(AUTH);
                    wrong.fail(failures);
                    Check.due("another KEY after " + failures, locks ? Bench.LOCKED : Bench.DENIED,
                        Bench.use(wrong.vault, code, by));
                    Check.due("FAILURES", locks ? failures : failures + 1, wrong.vault.look(0));
                }
                Bench free = under(TIME);
                free.fail(failures);
                Check.due("what asks for no KEY, after " + failures, Bench.good(code), Bench.use(free.vault, code, 0));
                Bench late = under(AUTH, TIME);
                late.fail(failures).vault.tick(51);
                Check.due("WRONG comes before LOCKED", Bench.WRONG, Bench.use(late.vault, code, 0));
            }
        }
    }

    private static void byAnotherNumber() {
        for (int code = 1; code <= 6; code++) {
            for (int by : new int[] {-2, -3, 4, 5, 256, Bench.LEAST, Bench.MOST}) {
                Bench b = under(TIME);
                Check.due("by " + by + ", code " + code, Bench.REFUSED, Bench.use(b.vault, code, by));
                b.fail(4);
                Check.due("by " + by + ", LOCKED or not", Bench.REFUSED, Bench.use(b.vault, code, by));
                Check.due("no failure", 4, b.vault.look(0));
                Check.due("open sessions", 1, b.vault.look(5));
            }
            Bench b = under(TIME);
            Check.due("by -1, code " + code, Bench.good(code), Bench.use(b.vault, code, -1));
        }
    }

    private static void askedLast() {
        int[] bys = {-1, 0, 3, 4, -2};
        for (int failures : new int[] {0, 4}) {
            for (int by : bys) {
                Bench b = Scene.make();
                b.vault.shut(0, -1);
                b.fail(failures);
                Check.due("unseal", Bench.NONE, b.vault.unseal(3, by));
                Check.due("write", Bench.NONE, b.vault.write(7, 0, by));
                Check.due("write", Bench.REFUSED, b.vault.write(0, 9, by));
                Check.due("write", Bench.FULL, b.vault.write(0, 8, by));
                Check.due("count", Bench.NONE, b.vault.count(0, by));
                Check.due("count", Bench.FULL, b.vault.count(6, by));
                Check.due("chain", Bench.NONE, b.vault.chain(6, by));
                Check.due("read", Bench.NONE, b.vault.read(7, by));
                Check.due("read", Bench.FULL, b.vault.read(3, by));
                Check.due("shut", Bench.NONE, b.vault.shut(7, by));
                Check.due("nothing was asked", failures, b.vault.look(0));
                Check.due("open sessions", 3, b.vault.look(5));
            }
            Bench owner = Scene.make();
            owner.fail(failures);
            Check.due("define", Bench.REFUSED, owner.vault.define(8, 0, 4, -1));
            Check.due("define", Bench.NONE, owner.vault.define(0, 0, 4, -1));
            Check.due("undefine", Bench.NONE, owner.vault.undefine(7));
            Check.due("nothing was asked", failures, owner.vault.look(0));
        }
    }

    private static int owners(MeasuredVault v, int which) {
        return which == 0 ? v.define(7, 0, 4, -1) : which == 1 ? v.undefine(0) : which == 2 ? v.own() : v.clear();
    }

    private static void askedOfTheOwner() {
        for (int which = 0; which < 4; which++) {
            for (int failures = 0; failures < 7; failures++) {
                boolean locks = failures >= 4;
                for (String word : new String[] {Scene.NOBODY, Scene.THINGS, ""}) {
                    Bench b = Scene.make();
                    b.fail(failures).key(word);
                    Check.due("another KEY", locks ? Bench.LOCKED : Bench.DENIED, owners(b.vault, which));
                    Check.due("FAILURES", locks ? failures : failures + 1, b.vault.look(0));
                }
                Bench b = Scene.make();
                b.fail(failures).key(Scene.OWNER);
                Check.due("the owner's KEY", locks ? Bench.LOCKED : 0, owners(b.vault, which));
                Check.due("FAILURES", failures, b.vault.look(0));
            }
        }
    }
}
