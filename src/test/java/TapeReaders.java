/** The calls that read the TAPE, with every answer that each can give; and those that do not read it. */
final class TapeReaders {
    private TapeReaders() {
    }

    /** A call on a vault of the scene, whose THE KEY, FAILURES and TAPE are set first. */
    private static void empties(String name, int want, String word, int failures, byte[] tape, Twins.Call call) {
        Bench b = Scene.make();
        b.fail(failures).key(word).tape(tape);
        Check.due(name, want, call.on(b.vault));
        Check.due("the TAPE is empty after " + name + ", which answered " + want, 0, b.vault.look(7));
        b.vault.hash();
        Check.due("H of it", Bench.h(), b.out());
    }

    private static void empties(String name, int want, String word, Twins.Call call) {
        empties(name, want, word, 2, Bench.text("tape"), call);
    }

    static void emptyIt() {
        empties("hash", 32, Scene.NOBODY, v -> v.hash());
        empties("key", 0, Scene.NOBODY, v -> v.key());
        empties("extend", 0, Scene.NOBODY, v -> v.extend(0));
        empties("extend", Bench.REFUSED, Scene.NOBODY, v -> v.extend(8));
        empties("quote", 78, Scene.NOBODY, v -> v.quote(0));
        empties("quote", Bench.REFUSED, Scene.NOBODY, 2, Bench.row(33), v -> v.quote(0));
        policies();
        blobs();
        values();
        empties("own", 0, Scene.OWNER, v -> v.own());
        empties("own", Bench.DENIED, Scene.NOBODY, v -> v.own());
        empties("own", Bench.LOCKED, Scene.OWNER, 4, Bench.row(400), v -> v.own());
        othersLeaveIt();
    }

    private static void policies() {
        byte[] auth = Bench.h(new byte[32], Bench.one(2));
        empties("policyOr", 0, Scene.NOBODY, 2, Bench.cat(auth, auth), v -> v.policyOr(2));
        empties("policyOr", Bench.REFUSED, Scene.NOBODY, 2, Bench.cat(auth, auth), v -> v.policyOr(3));
        empties("policyOr", Bench.REFUSED, Scene.NOBODY, 2, Bench.cat(auth, auth), v -> v.policyOr(4));
        empties("policyOr", Bench.REFUSED, Scene.NOBODY, 2, auth, v -> v.policyOr(2));
        empties("policyOr", Bench.WRONG, Scene.NOBODY, 2, Bench.row(64), v -> v.policyOr(2));
    }

    private static void blobs() {
        byte[] good = Bench.blob(Bench.seedOf(31), 9, new byte[32], Bench.h(), 3, Bench.text("abc"));
        empties("seal", 105, Scene.NOBODY, v -> v.seal(-1));
        empties("seal", 105, Scene.NOBODY, v -> v.seal(0));
        empties("seal", Bench.REFUSED, Scene.NOBODY, v -> v.seal(3));
        empties("seal", Bench.REFUSED, Scene.NOBODY, v -> v.seal(-2));
        empties("seal", Bench.REFUSED, Scene.NOBODY, 2, Bench.row(129), v -> v.seal(-1));
        empties("load", 3, Scene.NOBODY, 2, good, v -> v.load());
        empties("load", Bench.BROKEN, Scene.NOBODY, 2, Bench.row(400), v -> v.load());
        empties("load", Bench.BROKEN, Scene.NOBODY, v -> v.load());
        Bench b = Scene.make();
        b.sealed("fourth", -1);
        Check.due("load", Bench.FULL, b.tape(good).vault.load());
        Check.due("the TAPE is empty", 0, b.vault.look(7));
    }

    private static void values() {
        empties("define", 0, Scene.OWNER, v -> v.define(7, 0, 4, -1));
        empties("define", Bench.REFUSED, Scene.OWNER, v -> v.define(8, 0, 4, -1));
        empties("define", Bench.REFUSED, Scene.OWNER, v -> v.define(7, 0, 4, 3));
        empties("define", Bench.NONE, Scene.OWNER, v -> v.define(0, 0, 4, -1));
        empties("define", Bench.DENIED, Scene.NOBODY, v -> v.define(7, 0, 4, -1));
        empties("define", Bench.LOCKED, Scene.OWNER, 4, Bench.row(4), v -> v.define(7, 0, 4, -1));
        empties("write", 0, Scene.THINGS, v -> v.write(0, 0, -1));
        empties("write", Bench.NONE, Scene.THINGS, v -> v.write(8, 0, -1));
        empties("write", Bench.NONE, Scene.THINGS, v -> v.write(1, 0, -1));
        empties("write", Bench.REFUSED, Scene.THINGS, v -> v.write(0, 5, -1));
        empties("write", Bench.REFUSED, Scene.THINGS, v -> v.write(0, 0, 3));
        empties("write", Bench.WRONG, Scene.THINGS, v -> v.write(0, 0, 0));
        empties("write", Bench.DENIED, Scene.NOBODY, v -> v.write(0, 0, -1));
        empties("write", Bench.LOCKED, Scene.THINGS, 4, Bench.row(4), v -> v.write(0, 0, -1));
        empties("chain", 0, Scene.THINGS, v -> v.chain(2, -1));
        empties("chain", Bench.NONE, Scene.THINGS, v -> v.chain(7, -1));
        empties("chain", Bench.REFUSED, Scene.THINGS, v -> v.chain(2, 3));
        empties("chain", Bench.WRONG, Scene.THINGS, v -> v.chain(2, 0));
        empties("chain", Bench.DENIED, Scene.NOBODY, v -> v.chain(2, -1));
        empties("chain", Bench.LOCKED, Scene.THINGS, 4, Bench.row(4), v -> v.chain(2, -1));
        Bench b = Scene.make();
        b.vault.shut(0, -1);
        b.vault.shut(2, -1);
        Check.due("write", Bench.FULL, b.tape("tape").vault.write(0, 0, -1));
        Check.due("the TAPE is empty", 0, b.vault.look(7));
        Check.due("chain", Bench.FULL, b.tape("tape").vault.chain(2, -1));
        Check.due("the TAPE is empty", 0, b.vault.look(7));
    }

    private static void leaves(String name, int want, Twins.Call call) {
        Bench b = Scene.make();
        b.key(name.equals("undefine") || name.equals("clear") || name.equals("unlock") ? Scene.OWNER : Scene.THINGS);
        b.tape(Bench.row(200));
        Check.due(name, want, call.on(b.vault));
        Check.due("the TAPE stays by " + name, 200, b.vault.look(7));
        b.vault.hash();
        Check.due("H of it", Bench.h(Bench.row(200)), b.out());
    }

    private static void othersLeaveIt() {
        leaves("octet", 32, v -> v.octet(-1));
        leaves("reset", 0, v -> v.reset(6));
        leaves("state", 32, v -> v.state(255));
        leaves("open", 0, v -> v.open(3));
        leaves("policyState", 0, v -> v.policyState(0, 1));
        leaves("policyAuth", 0, v -> v.policyAuth(0));
        leaves("policyCode", 0, v -> v.policyCode(0, 1));
        leaves("policyTime", 0, v -> v.policyTime(0, 1));
        leaves("digest", 32, v -> v.digest(0));
        leaves("unseal", 6, v -> v.unseal(1, -1));
        leaves("flush", 0, v -> v.flush(1));
        leaves("undefine", 0, v -> v.undefine(1));
        leaves("count", 3, v -> v.count(1, -1));
        leaves("read", 8, v -> v.read(0, -1));
        leaves("shut", 0, v -> v.shut(0, -1));
        leaves("unlock", 0, v -> v.unlock());
        leaves("clear", 0, v -> v.clear());
        leaves("tick", 250, v -> v.tick(100));
        leaves("restart", 2, v -> v.restart());
        leaves("look", 3, v -> v.look(4));
    }
}
