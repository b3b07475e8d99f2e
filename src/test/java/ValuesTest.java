/** Promises 23 to 29: define, undefine, write, count, chain, read, shut. */
public final class ValuesTest {
    private static final byte[] ZERO = new byte[32];
    private static final int[] OTHERS = {-1, 8, 9, Integer.MIN_VALUE, Integer.MAX_VALUE};

    private ValuesTest() {
    }

    public static void main(String[] args) {
        promise23Define();
        promise23Refused();
        promise23Order();
        promise23Things();
        promise24Undefine();
        promise24Order();
        promise25Write();
        promise25Edges();
        promise25Order();
        promise26Count();
        promise26Order();
        promise27Chain();
        promise27Order();
        promise28Read();
        promise29Shut();
        bySession();
        Check.finish("ValuesTest");
    }

    private static void promise23Define() {
        Bench b = new Bench(2);
        int[][] asked = {{0, 0, 1}, {1, 0, 64}, {2, 1, 0}, {3, 1, 65}, {4, 2, -1}, {5, 2, Integer.MAX_VALUE},
            {6, 0, 32}, {7, 1, Integer.MIN_VALUE}};
        for (int[] each : asked) {
            Check.due("define", 0, b.vault.define(each[0], each[1], each[2], -1));
            Check.due("values", each[0] + 1, b.vault.look(6));
            Check.due("UNWRITTEN", Bench.FULL, b.vault.read(each[0], -1));
        }
        b.vault.write(0, 0, -1);
        Check.due("size 1", 1, b.vault.read(0, -1));
        b.vault.write(1, 0, -1);
        Check.due("size 64", 64, b.vault.read(1, -1));
        b.vault.count(2, -1);
        Check.due("8 bytes", 8, b.vault.read(2, -1));
        b.vault.chain(5, -1);
        Check.due("32 bytes", 32, b.vault.read(5, -1));
    }

    private static void promise23Refused() {
        Bench b = new Bench(2);
        for (int value : OTHERS) {
            Check.due("define value " + value, Bench.REFUSED, b.vault.define(value, 0, 4, -1));
        }
        for (int kind : new int[] {-1, 3, Integer.MIN_VALUE, Integer.MAX_VALUE}) {
            Check.due("define kind " + kind, Bench.REFUSED, b.vault.define(0, kind, 4, -1));
        }
        for (int size : new int[] {0, -1, 65, Integer.MIN_VALUE, Integer.MAX_VALUE}) {
            Check.due("define size " + size, Bench.REFUSED, b.vault.define(0, 0, size, -1));
        }
        for (int s : new int[] {0, 3, 4, -2, Integer.MIN_VALUE, Integer.MAX_VALUE}) {
            b.tape("x");
            Check.due("define session " + s, Bench.REFUSED, b.vault.define(0, 0, 4, s));
            Check.due("the tape is empty", 0, b.vault.look(7));
        }
        Check.due("no value", 0, b.vault.look(6));
    }

    private static void promise23Order() {
        Bench b = new Bench(2);
        b.vault.define(0, 1, 0, -1);
        Check.due("there is one", Bench.NONE, b.vault.define(0, 1, 0, -1));
        Check.due("there is one, of another kind", Bench.NONE, b.vault.define(0, 0, 8, -1));
        Check.due("REFUSED is before NONE", Bench.REFUSED, b.vault.define(0, 0, 65, -1));
        b.key("nobody");
        Check.due("NONE is before DENIED", Bench.NONE, b.vault.define(0, 1, 0, -1));
        Check.due("REFUSED is before DENIED", Bench.REFUSED, b.vault.define(1, 3, 0, -1));
        Check.due("no failure", 0, b.vault.look(0));
        b.tape("x");
        Check.due("not the owner", Bench.DENIED, b.vault.define(1, 1, 0, -1));
        Check.due("the tape is empty", 0, b.vault.look(7));
        Check.due("a failure", 1, b.vault.look(0));
        b.fail(3);
        b.vault.key();
        Check.due("LOCKED", Bench.LOCKED, b.vault.define(1, 1, 0, -1));
        Check.due("NONE is before LOCKED", Bench.NONE, b.vault.define(0, 1, 0, -1));
        Check.due("REFUSED is before LOCKED", Bench.REFUSED, b.vault.define(8, 1, 0, -1));
        Check.due("one value", 1, b.vault.look(6));
    }

    private static void promise23Things() {
        Bench b = new Bench(2);
        b.vault.open(1);
        b.vault.policyCode(1, 3);
        byte[] policy = b.digest(1);
        b.tape("auth");
        Check.due("define", 0, b.vault.define(0, 1, 0, 1));
        Check.due("the session stays", policy, b.digest(1));
        Check.due("THE KEY is another", Bench.DENIED, b.vault.count(0, -1));
        b.key("auth");
        Check.due("its AUTH is H(TAPE)", 1, b.vault.count(0, -1));
        Check.due("its POLICY is the DIGEST", 2, b.vault.count(0, 1));
        Check.due("CLOSED then", Bench.REFUSED, b.vault.count(0, 1));
    }

    private static void promise24Undefine() {
        Bench b = new Bench(2);
        b.vault.define(3, 0, 4, -1);
        b.tape("abcd");
        b.vault.write(3, 0, -1);
        b.vault.shut(3, -1);
        b.tape("stays");
        Check.due("undefine", 0, b.vault.undefine(3));
        Check.due("the tape stays", 5, b.vault.look(7));
        Check.due("no value", 0, b.vault.look(6));
        Check.due("there is none", Bench.NONE, b.vault.undefine(3));
        Check.due("nothing to read", Bench.NONE, b.vault.read(3, -1));
        b.vault.end(0);
        b.vault.define(3, 0, 4, -1);
        Check.due("UNWRITTEN anew", Bench.FULL, b.vault.read(3, -1));
        Check.due("not SHUT", 0, b.vault.write(3, 0, -1));
        b.vault.read(3, -1);
        Check.due("bytes of 0", new byte[4], b.out());
        b.vault.undefine(3);
        b.vault.define(3, 2, 0, -1);
        b.vault.chain(3, -1);
        b.vault.read(3, -1);
        Check.due("a chain from 0", Bench.h(ZERO), b.out());
    }

    private static void promise24Order() {
        Bench b = new Bench(2);
        for (int value : OTHERS) {
            Check.due("undefine(" + value + ")", Bench.NONE, b.vault.undefine(value));
        }
        b.tape("its own");
        b.vault.define(0, 1, 0, -1);
        b.key("its own");
        Check.due("only the owner", Bench.DENIED, b.vault.undefine(0));
        Check.due("NONE is before DENIED", Bench.NONE, b.vault.undefine(1));
        Check.due("a failure", 1, b.vault.look(0));
        b.fail(3);
        b.vault.key();
        Check.due("LOCKED", Bench.LOCKED, b.vault.undefine(0));
        Check.due("NONE is before LOCKED", Bench.NONE, b.vault.undefine(1));
        b.vault.unlock();
        Check.due("the owner", 0, b.vault.undefine(0));
    }

    private static void promise25Write() {
        Bench b = new Bench(2);
        b.vault.define(0, 0, 10, -1);
        b.tape("xyz");
        Check.due("write", 0, b.vault.write(0, 4, -1));
        Check.due("the tape is empty", 0, b.vault.look(7));
        b.vault.read(0, -1);
        Check.due("never written is 0", Bench.cat(new byte[4], Bench.text("xyz"), new byte[3]), b.out());
        b.tape("AB");
        b.vault.write(0, 3, -1);
        b.vault.read(0, -1);
        Check.due("written over", Bench.cat(new byte[3], Bench.text("AByz"), new byte[3]), b.out());
        b.tape("0123456789");
        Check.due("write of all", 0, b.vault.write(0, 0, -1));
        b.vault.read(0, -1);
        Check.due("all", Bench.text("0123456789"), b.out());
        b.vault.define(1, 0, 64, -1);
        b.tape(Bench.row(64));
        Check.due("write of 64", 0, b.vault.write(1, 0, -1));
        b.vault.read(1, -1);
        Check.due("all 64", Bench.row(64), b.out());
    }

    private static void promise25Edges() {
        for (int at : new int[] {0, 5, 10}) {
            Bench b = new Bench(2);
            b.vault.define(0, 0, 10, -1);
            Check.due("an empty tape at " + at, 0, b.vault.write(0, at, -1));
            Check.due("not UNWRITTEN", 10, b.vault.read(0, -1));
            Check.due("bytes of 0", new byte[10], b.out());
        }
        Bench b = new Bench(2);
        b.vault.define(0, 0, 10, -1);
        for (int at : new int[] {11, -1, 65, Integer.MIN_VALUE, Integer.MAX_VALUE}) {
            Check.due("an empty tape at " + at, Bench.REFUSED, b.vault.write(0, at, -1));
        }
        for (int at : new int[] {8, 10, -1, -3, Integer.MIN_VALUE, Integer.MAX_VALUE, Integer.MAX_VALUE - 2}) {
            b.tape("abc");
            Check.due("three at " + at, Bench.REFUSED, b.vault.write(0, at, -1));
            Check.due("the tape is empty", 0, b.vault.look(7));
        }
        b.tape(Bench.row(11));
        Check.due("eleven", Bench.REFUSED, b.vault.write(0, 0, -1));
        Check.due("still UNWRITTEN", Bench.FULL, b.vault.read(0, -1));
        b.tape("abc");
        Check.due("three at 7", 0, b.vault.write(0, 7, -1));
    }

    private static void promise25Order() {
        Bench b = new Bench(2);
        b.vault.define(0, 0, 4, -1);
        b.vault.define(1, 1, 0, -1);
        b.vault.define(2, 2, 0, -1);
        b.key("nobody");
        for (int value : OTHERS) {
            Check.due("write(" + value + ")", Bench.NONE, b.vault.write(value, 0, -1));
        }
        Check.due("write of a COUNTER", Bench.NONE, b.vault.write(1, 0, -1));
        Check.due("write of a CHAIN", Bench.NONE, b.vault.write(2, 99, -1));
        Check.due("REFUSED is before DENIED", Bench.REFUSED, b.vault.write(0, 5, -1));
        Check.due("no failure", 0, b.vault.look(0));
        b.vault.key();
        b.vault.shut(0, -1);
        Check.due("REFUSED is before FULL", Bench.REFUSED, b.vault.write(0, 5, -1));
        b.key("nobody");
        b.tape("x");
        Check.due("FULL is before DENIED", Bench.FULL, b.vault.write(0, 0, -1));
        Check.due("the tape is empty", 0, b.vault.look(7));
        Check.due("FULL is before REFUSED of BY", Bench.FULL, b.vault.write(0, 0, 9));
        b.vault.restart();
        b.tape("x");
        Check.due("DENIED", Bench.DENIED, b.vault.write(0, 0, -1));
        Check.due("the tape is empty", 0, b.vault.look(7));
        Check.due("another BY", Bench.REFUSED, b.vault.write(0, 0, 4));
        b.fail(3);
        Check.due("LOCKED", Bench.LOCKED, b.vault.write(0, 0, -1));
        b.vault.key();
        b.vault.unlock();
        Check.due("nothing was written", Bench.FULL, b.vault.read(0, -1));
    }

    private static void promise26Count() {
        Bench b = new Bench(2);
        b.vault.define(0, 1, 0, -1);
        b.tape("stays");
        for (int i = 1; i <= 300; i++) {
            Check.due("count", i, b.vault.count(0, -1));
        }
        Check.due("the tape stays", 5, b.vault.look(7));
        Check.due("read", 8, b.vault.read(0, -1));
        Check.due("its 8 bytes", Bench.cat(Bench.four(0), Bench.four(300)), b.out());
    }

    private static void promise26Order() {
        Bench b = new Bench(2);
        b.vault.define(0, 0, 4, -1);
        b.vault.define(1, 1, 0, -1);
        b.vault.define(2, 2, 0, -1);
        b.vault.shut(1, -1);
        b.key("nobody");
        for (int value : OTHERS) {
            Check.due("count(" + value + ")", Bench.NONE, b.vault.count(value, -1));
        }
        Check.due("count of a PLAIN one", Bench.NONE, b.vault.count(0, -1));
        Check.due("count of a CHAIN", Bench.NONE, b.vault.count(2, -1));
        Check.due("FULL is before DENIED", Bench.FULL, b.vault.count(1, -1));
        b.vault.restart();
        Check.due("another BY", Bench.REFUSED, b.vault.count(1, -2));
        Check.due("no failure", 0, b.vault.look(0));
        Check.due("DENIED", Bench.DENIED, b.vault.count(1, -1));
        Check.due("a failure", 1, b.vault.look(0));
        b.fail(3);
        Check.due("LOCKED", Bench.LOCKED, b.vault.count(1, -1));
        b.vault.key();
        b.vault.unlock();
        Check.due("still UNWRITTEN", Bench.FULL, b.vault.read(1, -1));
        Check.due("nothing was counted", 1, b.vault.count(1, -1));
    }

    private static void promise27Chain() {
        Bench b = new Bench(2);
        b.vault.define(5, 2, 0, -1);
        byte[] want = ZERO;
        for (int n : new int[] {0, 3, 31, 400}) {
            b.tape(Bench.row(n));
            Check.due("chain", 0, b.vault.chain(5, -1));
            Check.due("the tape is empty", 0, b.vault.look(7));
            want = Bench.h(want, Bench.row(n));
            Check.due("read", 32, b.vault.read(5, -1));
            Check.due("the CHAIN", want, b.out());
        }
    }

    private static void promise27Order() {
        Bench b = new Bench(2);
        b.vault.define(0, 0, 4, -1);
        b.vault.define(1, 1, 0, -1);
        b.vault.define(2, 2, 0, -1);
        b.vault.shut(2, -1);
        b.key("nobody");
        for (int value : OTHERS) {
            Check.due("chain(" + value + ")", Bench.NONE, b.vault.chain(value, -1));
        }
        b.tape("x");
        Check.due("chain of a PLAIN one", Bench.NONE, b.vault.chain(0, -1));
        Check.due("the tape is empty", 0, b.vault.look(7));
        Check.due("chain of a COUNTER", Bench.NONE, b.vault.chain(1, -1));
        b.tape("x");
        Check.due("FULL is before DENIED", Bench.FULL, b.vault.chain(2, -1));
        Check.due("the tape is empty", 0, b.vault.look(7));
        Check.due("no failure", 0, b.vault.look(0));
        b.vault.restart();
        b.tape("x");
        Check.due("DENIED", Bench.DENIED, b.vault.chain(2, -1));
        Check.due("the tape is empty", 0, b.vault.look(7));
        Check.due("another BY", Bench.REFUSED, b.vault.chain(2, 3));
        b.fail(3);
        Check.due("LOCKED", Bench.LOCKED, b.vault.chain(2, -1));
        b.vault.key();
        b.vault.unlock();
        Check.due("still UNWRITTEN", Bench.FULL, b.vault.read(2, -1));
    }

    private static void promise28Read() {
        Bench b = new Bench(2);
        b.vault.hash();
        b.vault.define(0, 0, 4, -1);
        b.key("nobody");
        for (int value : OTHERS) {
            Check.due("read(" + value + ")", Bench.NONE, b.vault.read(value, -1));
        }
        Check.due("FULL is before DENIED", Bench.FULL, b.vault.read(0, -1));
        Check.due("FULL is before REFUSED of BY", Bench.FULL, b.vault.read(0, 9));
        Check.due("no failure", 0, b.vault.look(0));
        b.vault.key();
        b.tape("\u00ff\u0080az");
        b.vault.write(0, 0, -1);
        b.vault.shut(0, -1);
        b.tape("stays");
        b.vault.hash();
        b.tape("stays");
        Check.due("read of a SHUT one", 4, b.vault.read(0, -1));
        Check.due("its bytes", Bench.text("\u00ff\u0080az"), b.out());
        Check.due("the tape stays", 5, b.vault.look(7));
        b.key("nobody");
        Check.due("DENIED", Bench.DENIED, b.vault.read(0, -1));
        Check.due("another BY", Bench.REFUSED, b.vault.read(0, 0));
        Check.due("OUT stays", Bench.text("\u00ff\u0080az"), b.out());
        b.fail(3);
        Check.due("LOCKED", Bench.LOCKED, b.vault.read(0, -1));
    }

    private static void promise29Shut() {
        Bench b = new Bench(2);
        b.vault.define(0, 0, 4, -1);
        b.vault.define(1, 1, 0, -1);
        b.vault.define(2, 2, 0, -1);
        b.key("nobody");
        for (int value : OTHERS) {
            Check.due("shut(" + value + ")", Bench.NONE, b.vault.shut(value, -1));
        }
        Check.due("DENIED", Bench.DENIED, b.vault.shut(0, -1));
        Check.due("another BY", Bench.REFUSED, b.vault.shut(0, 4));
        b.vault.key();
        Check.due("DENIED shuts nothing", 0, b.vault.write(0, 0, -1));
        for (int value = 0; value < 3; value++) {
            Check.due("shut", 0, b.vault.shut(value, -1));
            Check.due("shut again", 0, b.vault.shut(value, -1));
        }
        Check.due("write", Bench.FULL, b.vault.write(0, 0, -1));
        Check.due("count", Bench.FULL, b.vault.count(1, -1));
        Check.due("chain", Bench.FULL, b.vault.chain(2, -1));
        b.vault.restart();
        Check.due("write after restart", 0, b.vault.write(0, 0, -1));
        Check.due("count after restart", 1, b.vault.count(1, -1));
        Check.due("chain after restart", 0, b.vault.chain(2, -1));
        b.fail(4);
        Check.due("LOCKED", Bench.LOCKED, b.vault.shut(0, -1));
    }

    private static void bySession() {
        Bench b = new Bench(2);
        b.vault.open(0);
        b.vault.policyTime(0, 9);
        b.tape("unknown");
        b.vault.define(0, 0, 4, 0);
        b.tape("unknown");
        b.vault.define(1, 1, 0, 0);
        b.tape("unknown");
        b.vault.define(2, 2, 0, 0);
        b.tape("abcd");
        Check.due("write by a session", 0, b.vault.write(0, 0, 0));
        b.vault.open(1);
        b.vault.policyTime(1, 9);
        Check.due("count by a session", 1, b.vault.count(1, 1));
        b.vault.open(2);
        b.vault.policyTime(2, 9);
        Check.due("chain by a session", 0, b.vault.chain(2, 2));
        b.vault.open(3);
        b.vault.policyTime(3, 9);
        Check.due("read by a session", 4, b.vault.read(0, 3));
        Check.due("all are CLOSED", 0, b.vault.look(5));
        b.vault.open(3);
        b.vault.policyTime(3, 9);
        Check.due("shut by a session", 0, b.vault.shut(0, 3));
        b.vault.open(3);
        b.vault.policyTime(3, 9);
        Check.due("FULL leaves a session open", Bench.FULL, b.vault.write(0, 0, 3));
        Check.due("NONE leaves a session open", Bench.NONE, b.vault.count(0, 3));
        Check.due("one is open", 1, b.vault.look(5));
        b.vault.tick(10);
        Check.due("too late", Bench.WRONG, b.vault.read(0, 3));
        Check.due("WRONG leaves a session open", 1, b.vault.look(5));
    }
}
