import java.lang.reflect.Field;
import java.util.Arrays;

/** Promises 23 to 29, sentence by sentence: define, undefine, write, count, chain, read, shut. */
public final class ValuesEdgesTest {
    private static final byte[] ZERO = new byte[32];
    private static final int[] NO_VALUE = {-1, -2, 8, 9, 256, Bench.LEAST, Bench.MOST};
    private static final int[] BYS = {-1, 0, 3, 4};

    private ValuesEdgesTest() {
    }

    public static void main(String[] args) {
        Sentences says = new Sentences();
        promise23(says);
        says.promise(24, "OWNER'S: a value is none: 0.", ValuesEdgesTest::undefined);
        says.promise(24, "NONE, first, if there is none.", ValuesEdgesTest::undefineOfNone);
        promise25(says);
        says.promise(26, "BY, code 3: a COUNTER is 1 more", ValuesEdgesTest::counted);
        says.promise(26, "UNWRITTEN it becomes 1 more than THE GREATEST", ValuesEdgesTest::countOfUnwritten);
        says.promise(26, "its number's lowest 31 bits.", ValuesEdgesTest::countAnswers);
        says.promise(26, "NONE if there is none, or of another kind", ValuesEdgesTest::countOfNone);
        says.promise(26, "FULL if SHUT.", ValuesEdgesTest::countOfShut);
        says.promise(27, "BY, code 4: a CHAIN becomes H(it (32 bytes 0 at first), the TAPE): 0.",
            ValuesEdgesTest::chained);
        says.promise(27, "NONE, FULL likewise.", ValuesEdgesTest::chainOfNoneAndShut);
        says.promise(28, "BY, code 5: OUT becomes the bytes of a value: how many.", ValuesEdgesTest::readOfEdges);
        says.promise(28, "NONE if there is none", ValuesEdgesTest::readOfNone);
        says.promise(28, "FULL if it is UNWRITTEN.", ValuesEdgesTest::readOfUnwritten);
        says.promise(29, "BY, code 6: a value is SHUT: 0.", ValuesEdgesTest::shutOfAll);
        says.promise(29, "NONE if there is none.", ValuesEdgesTest::shutOfNone);
        says.coverPromises(23, 29);
        Check.finish("ValuesEdgesTest");
    }

    private static void promise23(Sentences says) {
        says.promise(23, "OWNER'S: a value is there, with H(TAPE) as AUTH, the DIGEST of a session as POLICY "
            + "(-1: NO POLICY): 0.", ValuesEdgesTest::defined);
        says.promise(23, "REFUSED, first, for another value", ValuesEdgesTest::defineOfAnotherValue);
        says.promise(23, "for another value, kind", ValuesEdgesTest::defineOfAnotherKind);
        says.promise(23, "session, or if that is CLOSED", ValuesEdgesTest::defineOfAnotherSession);
        says.promise(23, "or size is not 1 to 64 (of PLAIN ones)", ValuesEdgesTest::defineOfSizes);
        says.promise(23, "then NONE if there is one.", ValuesEdgesTest::defineOfOneThere);
    }

    private static void promise25(Sentences says) {
        says.promise(25, "BY, code 2: the TAPE becomes bytes of a PLAIN value, from at on", ValuesEdgesTest::written);
        says.promise(25, "(what was never written is 0): 0", ValuesEdgesTest::neverWritten);
        says.promise(25, "(an empty TAPE, too, with at from 0 to the size: it is not UNWRITTEN then).",
            ValuesEdgesTest::writeOfEmpty);
        says.promise(25, "NONE if there is none", ValuesEdgesTest::writeOfNone);
        says.promise(25, "or of another kind", ValuesEdgesTest::writeOfAnotherKind);
        says.promise(25, "REFUSED if they are not all in it (at above the size, too)", ValuesEdgesTest::writeOutside);
        says.promise(25, "then FULL if it is SHUT", ValuesEdgesTest::writeOfShut);
        says.promise(25, "then BY.", ValuesEdgesTest::writeAsksLast);
    }

    /** A vault with a PLAIN value 0 of some size; its AUTH is THE KEY. */
    private static Bench plain(int size) {
        Bench b = new Bench(2);
        b.vault.define(0, 0, size, -1);
        return b;
    }

    private static byte[] bytes(Bench b, int value) {
        b.vault.read(value, -1);
        return b.out();
    }

    private static void defined() {
        for (int value = 0; value < 8; value++) {
            for (int kind = 0; kind < 3; kind++) {
                Bench b = new Bench(2);
                b.tape("auth");
                Check.due("define(" + value + ", " + kind + ")", 0, b.vault.define(value, kind, 5, -1));
                Check.due("the tape is empty", 0, b.vault.look(7));
                Check.due("OUT stays", 0, b.vault.octet(-1));
                Check.due("values", 1, b.vault.look(6));
                Check.due("H(TAPE) is its AUTH, not THE KEY", Bench.DENIED, b.vault.shut(value, -1));
                b.key("auth");
                b.vault.open(0);
                Check.due("NO POLICY", Bench.WRONG, b.vault.shut(value, 0));
                Check.due("H(TAPE) is its AUTH", 0, b.vault.shut(value, -1));
            }
        }
        for (int s = 0; s < 4; s++) {
            Bench b = new Bench(2);
            b.vault.open(s);
            b.vault.policyTime(s, 7);
            byte[] policy = b.digest(s);
            b.tape(Bench.row(400));
            Check.due("define by session " + s, 0, b.vault.define(0, 0, 1, s));
            Check.due("the session stays", policy, b.digest(s));
            Check.due("its POLICY", 0, b.vault.shut(0, s));
        }
        Asked.owner("define", true, v -> v.define(7, 0, 4, -1));
        Asked.owner("define by a session", true, v -> v.define(7, 2, 4, 0));
    }

    private static void refusedDefine(String what, int value, int kind, int size, int s) {
        for (String word : new String[] {Scene.OWNER, Scene.NOBODY}) {
            Twins.withKey(word).leaveButTape(what, Bench.REFUSED, v -> v.define(value, kind, size, s));
            Twins.withKey(word).failures(4).leaveButTape(what, Bench.REFUSED, v -> v.define(value, kind, size, s));
        }
    }

    private static void defineOfAnotherValue() {
        for (int value : NO_VALUE) {
            refusedDefine("value " + value, value, 0, 4, -1);
        }
        for (int value = 0; value < 8; value++) {
            Check.due("value " + value, 0, new Bench(2).vault.define(value, 0, 4, -1));
        }
    }

    private static void defineOfAnotherKind() {
        for (int kind : new int[] {-1, 3, 4, 256, Bench.LEAST, Bench.MOST}) {
            refusedDefine("kind " + kind, 7, kind, 4, -1);
            refusedDefine("kind " + kind + " where one is", 0, kind, 4, -1);
        }
        for (int kind = 0; kind < 3; kind++) {
            Check.due("kind " + kind, 0, new Bench(2).vault.define(7, kind, 4, -1));
        }
    }

    private static void defineOfAnotherSession() {
        for (int s : new int[] {3, 4, 5, -2, 256, Bench.LEAST, Bench.MOST}) {
            refusedDefine("session " + s, 7, 0, 4, s);
            refusedDefine("session " + s + " where one is", 0, 1, 0, s);
        }
        for (int s = 0; s < 3; s++) {
            int which = s;
            Twins.withKey(Scene.OWNER).after(b -> b.vault.restart())
                .leaveButTape("session " + s + " after restart", Bench.REFUSED, v -> v.define(7, 0, 4, which));
        }
        for (int s = -1; s < 3; s++) {
            Bench b = Scene.make();
            b.key(Scene.OWNER);
            Check.due("session " + s, 0, b.vault.define(7, 0, 4, s));
        }
    }

    private static void defineOfSizes() {
        for (int size : new int[] {0, -1, -64, 65, 66, 128, 256, 257, Bench.LEAST, Bench.MOST}) {
            refusedDefine("size " + size, 7, 0, size, -1);
            refusedDefine("size " + size + " where one is", 0, 0, size, -1);
            for (int kind = 1; kind < 3; kind++) {
                Bench b = new Bench(2);
                Check.due("size " + size + " of kind " + kind, 0, b.vault.define(0, kind, size, -1));
                int ignored = kind == 1 ? b.vault.count(0, -1) : b.vault.chain(0, -1);
                Check.due("its bytes, after " + ignored, kind == 1 ? 8 : 32, b.vault.read(0, -1));
            }
        }
        for (int size : new int[] {1, 2, 63, 64}) {
            Bench b = new Bench(2);
            Check.due("size " + size, 0, b.vault.define(0, 0, size, -1));
            b.vault.write(0, 0, -1);
            Check.due("its bytes", size, b.vault.read(0, -1));
        }
    }

    private static void defineOfOneThere() {
        for (String word : new String[] {Scene.OWNER, Scene.NOBODY}) {
            for (int value = 0; value < 7; value++) {
                int which = value;
                Twins.withKey(word).leaveButTape("define(" + value + ")", Bench.NONE, v -> v.define(which, 0, 4, -1));
            }
            Twins.withKey(word).failures(4).leaveButTape("define, LOCKED", Bench.NONE, v -> v.define(0, 1, 4, 0));
        }
        Bench b = Scene.make();
        b.key(Scene.OWNER);
        Check.due("define(7)", 0, b.vault.define(7, 0, 4, -1));
        Check.due("define(7) again", Bench.NONE, b.vault.define(7, 0, 4, -1));
    }

    private static void undefined() {
        for (int value = 0; value < 7; value++) {
            Bench b = Scene.make();
            byte[] out = b.out();
            b.key(Scene.OWNER).tape("stays");
            Check.due("undefine(" + value + ")", 0, b.vault.undefine(value));
            Check.due("values", 6, b.vault.look(6));
            Check.due("the tape stays", 5, b.vault.look(7));
            Check.due("OUT stays", out, b.out());
            Check.due("it is none", Bench.NONE, b.vault.shut(value, -1));
            b.vault.end(0);
            Check.due("define anew", 0, b.vault.define(value, 0, 64, -1));
            b.vault.key();
            Check.due("UNWRITTEN anew", Bench.FULL, b.vault.read(value, -1));
            Check.due("not SHUT", 0, b.vault.write(value, 64, -1));
            Check.due("never written", new byte[64], bytes(b, value));
        }
        int[] values = {0, 1, 2, 3, 4, 5, 6};
        for (int value : values) {
            Asked.owner("undefine(" + value + ")", false, v -> v.undefine(value));
        }
    }

    private static void undefineOfNone() {
        for (String word : new String[] {Scene.OWNER, Scene.NOBODY}) {
            for (int failures : new int[] {0, 4}) {
                Twins.withKey(word).failures(failures).leave("undefine(7)", Bench.NONE, v -> v.undefine(7));
                for (int value : NO_VALUE) {
                    Twins.withKey(word).failures(failures)
                        .leave("undefine(" + value + ")", Bench.NONE, v -> v.undefine(value));
                }
            }
        }
        Twins.withKey(Scene.OWNER).after(b -> b.vault.undefine(0)).leave("again", Bench.NONE, v -> v.undefine(0));
    }

    private static void written() {
        int[][] good = {{1, 0, 1}, {2, 1, 1}, {8, 0, 8}, {8, 0, 1}, {8, 7, 1}, {8, 4, 4}, {64, 0, 64}, {64, 63, 1},
            {64, 1, 63}};
        for (int[] each : good) {
            Bench b = plain(each[0]);
            b.tape(Bench.row(each[0])).vault.write(0, 0, -1);
            byte[] want = Bench.row(each[0]);
            byte[] part = new byte[each[2]];
            Arrays.fill(part, (byte) 255);
            System.arraycopy(part, 0, want, each[1], each[2]);
            b.tape(part);
            Check.due("write of " + each[2] + " at " + each[1] + " of " + each[0], 0, b.vault.write(0, each[1], -1));
            Check.due("the tape is empty", 0, b.vault.look(7));
            Check.due("its bytes", want, bytes(b, 0));
        }
    }

    private static void neverWritten() {
        for (int at : new int[] {0, 1, 6, 7}) {
            Bench b = plain(8);
            byte[] want = new byte[8];
            want[at] = -1;
            b.tape(new byte[] {-1});
            Check.due("write at " + at, 0, b.vault.write(0, at, -1));
            Check.due("its bytes", want, bytes(b, 0));
            b.vault.undefine(0);
            b.vault.define(0, 0, 8, -1);
            b.vault.write(0, 0, -1);
            Check.due("of one that is new in its place", new byte[8], bytes(b, 0));
            b.vault.clear();
            b.vault.define(0, 0, 64, -1);
            b.vault.write(0, 0, -1);
            Check.due("of one that is new after clear", new byte[64], bytes(b, 0));
        }
    }

    private static void writeOfEmpty() {
        for (int size : new int[] {1, 8, 64}) {
            for (int at : new int[] {0, 1, size - 1, size}) {
                Bench b = plain(size);
                Check.due("UNWRITTEN", Bench.FULL, b.vault.read(0, -1));
                Check.due("none at " + at + " of " + size, 0, b.vault.write(0, at, -1));
                Check.due("not UNWRITTEN", size, b.vault.read(0, -1));
                Check.due("its bytes", new byte[size], b.out());
                b.tape(Bench.row(size)).vault.write(0, 0, -1);
                b.vault.write(0, at, -1);
                Check.due("none over bytes", Bench.row(size), bytes(b, 0));
            }
            for (int at : new int[] {-1, size + 1, 65, Bench.LEAST, Bench.MOST}) {
                Bench b = plain(size);
                Check.due("none at " + at + " of " + size, Bench.REFUSED, b.vault.write(0, at, -1));
                Check.due("UNWRITTEN still", Bench.FULL, b.vault.read(0, -1));
            }
        }
    }

    private static void writeOfNone() {
        for (int by : BYS) {
            for (int at : new int[] {0, 99}) {
                Twins.withKey(Scene.NOBODY).leaveButTape("write(7)", Bench.NONE, v -> v.write(7, at, by));
                for (int value : NO_VALUE) {
                    Twins.withKey(Scene.NOBODY)
                        .leaveButTape("write(" + value + ")", Bench.NONE, v -> v.write(value, at, by));
                }
            }
        }
        Twins.withKey(Scene.NOBODY).failures(4).leaveButTape("write, LOCKED", Bench.NONE, v -> v.write(7, 0, -1));
    }

    private static void writeOfAnotherKind() {
        for (int value : new int[] {1, 2, 4, 6}) {
            for (int by : BYS) {
                for (int at : new int[] {0, -1, 99}) {
                    Twins.withKey(Scene.THINGS)
                        .leaveButTape("write(" + value + ", " + at + ")", Bench.NONE, v -> v.write(value, at, by));
                }
            }
        }
        Check.due("write of a PLAIN one", 0, Scene.make().vault.write(0, 0, -1));
    }

    private static void writeOutside() {
        int[][] outside = {{4, 5}, {4, 8}, {4, 9}, {4, -1}, {4, -4}, {4, Bench.LEAST}, {4, Bench.MOST},
            {4, Bench.MOST - 3}, {1, 8}, {1, 9}, {8, 1}, {9, 0}, {9, -1}, {0, 9}, {0, -1}, {0, Bench.MOST},
            {400, 0}, {256, 0}, {264, -256}};
        for (int[] each : outside) {
            for (int by : BYS) {
                String what = each[0] + " bytes at " + each[1] + " by " + by;
                byte[] tape = Bench.row(each[0]);
                Twins.withKey(Scene.NOBODY).tape(tape).leaveButTape(what, Bench.REFUSED, v -> v.write(0, each[1], by));
            }
            Twins.withKey(Scene.THINGS).tape(Bench.row(each[0])).failures(4)
                .leaveButTape(each[0] + " bytes, LOCKED", Bench.REFUSED, v -> v.write(0, each[1], -1));
            Twins.withKey(Scene.THINGS).after(b -> b.vault.shut(0, -1)).tape(Bench.row(each[0]))
                .leaveButTape(each[0] + " bytes, SHUT", Bench.REFUSED, v -> v.write(0, each[1], -1));
        }
        for (int[] inside : new int[][] {{4, 4}, {1, 7}, {8, 0}, {0, 8}}) {
            Bench b = Scene.make();
            b.tape(Bench.row(inside[0]));
            Check.due(inside[0] + " bytes at " + inside[1], 0, b.vault.write(0, inside[1], -1));
        }
    }

    private static void writeOfShut() {
        for (String word : new String[] {Scene.THINGS, Scene.NOBODY}) {
            for (int by : BYS) {
                for (int failures : new int[] {2, 4}) {
                    Twins.withKey(Scene.THINGS).failures(2).after(b -> {
                        b.vault.shut(0, -1);
                        b.fail(failures - 2).key(word).tape("x");
                    }).leaveButTape("write of a SHUT one by " + by + ", " + failures + " FAILURES", Bench.FULL,
                        v -> v.write(0, 0, by));
                }
            }
        }
        Bench b = plain(4);
        b.vault.shut(0, -1);
        Check.due("none, to a SHUT one", Bench.FULL, b.vault.write(0, 4, -1));
        Check.due("UNWRITTEN still", Bench.FULL, b.vault.read(0, -1));
        b.vault.restart();
        Check.due("after restart", 0, b.vault.write(0, 4, -1));
    }

    private static void writeAsksLast() {
        Asked.by("write", true, (v, by) -> v.write(0, 0, by));
        Asked.by("write of one UNWRITTEN", true, (v, by) -> v.write(3, 0, by));
    }

    private static void counted() {
        Bench b = new Bench(2);
        b.vault.define(7, 1, 0, -1);
        b.tape("stays");
        for (int i = 1; i <= 260; i++) {
            Check.due("count", i, b.vault.count(7, -1));
        }
        Check.due("the tape stays", 5, b.vault.look(7));
        Check.due("OUT stays", 0, b.vault.octet(-1));
        Check.due("its bytes", Bench.cat(Bench.four(0), Bench.four(260)), bytes(b, 7));
        Asked.by("count", false, (v, by) -> v.count(1, by));
        Asked.by("count of one UNWRITTEN", false, (v, by) -> v.count(4, by));
    }

    private static void countOfUnwritten() {
        Bench b = new Bench(2);
        for (int i = 0; i < 3; i++) {
            b.vault.define(i, 1, 0, -1);
        }
        Check.due("of 0 at first", 1, b.vault.count(0, -1));
        Check.due("of 1", 2, b.vault.count(1, -1));
        Check.due("its own 1 more", 2, b.vault.count(0, -1));
        Check.due("its own 1 more", 3, b.vault.count(0, -1));
        Check.due("of 3, the greatest, not of 2, the last but one", 4, b.vault.count(2, -1));
        Check.due("one that lags makes no greatest", 3, b.vault.count(1, -1));
        b.vault.undefine(2);
        b.vault.define(2, 1, 0, -1);
        Check.due("of 4, that a counter had which is gone", 5, b.vault.count(2, -1));
        b.vault.clear();
        b.vault.define(5, 1, 0, -1);
        Check.due("after clear", 6, b.vault.count(5, -1));
        b.vault.restart();
        b.vault.define(6, 1, 0, -1);
        Check.due("after restart", 7, b.vault.count(6, -1));
        b.vault.define(7, 1, 0, -1);
        b.vault.shut(7, -1);
        b.vault.count(7, -1);
        b.vault.restart();
        Check.due("a refused count makes no greatest", 8, b.vault.count(7, -1));
        Check.due("its bytes", Bench.cat(Bench.four(0), Bench.four(8)), bytes(b, 7));
    }

    private static void countAnswers() {
        Bench b = new Bench(2);
        b.vault.define(0, 1, 0, -1);
        for (int i = 1; i <= 300; i++) {
            int answer = b.vault.count(0, -1);
            if (i == 1 || i == 127 || i == 128 || i == 255 || i == 256 || i == 300) {
                Check.due("count", i, answer);
                Check.due("its bytes", Bench.cat(Bench.four(0), Bench.four(i)), bytes(b, 0));
            }
        }
        countFrom((1L << 31) - 2, Bench.MOST, 0, 1);
        countFrom((1L << 32) - 2, Bench.MOST, 0, 1);
        countFrom((5L << 32) + 6, 7, 8);
    }

    private static void countFrom(long greatest, int... want) {
        Bench b = new Bench(2);
        b.vault.define(0, 1, 0, -1);
        if (!setGreatest(b.vault, greatest)) {
            System.out.println("THE GREATEST is kept elsewhere: counts beyond 31 bits are not asked for");
            return;
        }
        for (int i = 0; i < want.length; i++) {
            long number = greatest + 1 + i;
            Check.due("count to " + number, want[i], b.vault.count(0, -1));
            byte[] eight = Bench.cat(Bench.four((int) (number >> 32)), Bench.four((int) number));
            Check.due("its 8 bytes", eight, bytes(b, 0));
        }
    }

    /** No counter comes beyond 31 bits within 512 calls, so this reaches into the class; false if it can't. */
    private static boolean setGreatest(MeasuredVault v, long number) {
        try {
            Field greatest = MeasuredVault.class.getDeclaredField("greatest");
            greatest.setAccessible(true);
            greatest.setLong(v, number);
            return true;
        } catch (ReflectiveOperationException | IllegalArgumentException e) {
            return false;
        }
    }

    private static void countOfNone() {
        for (int by : BYS) {
            for (int value : new int[] {7, 0, 2, 3, 5}) {
                Twins.withKey(Scene.THINGS).leave("count(" + value + ")", Bench.NONE, v -> v.count(value, by));
                Twins.withKey(Scene.NOBODY).failures(4)
                    .leave("count(" + value + ")", Bench.NONE, v -> v.count(value, by));
            }
            for (int value : NO_VALUE) {
                Twins.withKey(Scene.NOBODY).leave("count(" + value + ")", Bench.NONE, v -> v.count(value, by));
            }
        }
        Check.due("count of a COUNTER", 3, Scene.make().vault.count(1, -1));
    }

    private static void countOfShut() {
        for (int by : BYS) {
            Twins.withKey(Scene.THINGS).leave("count of a SHUT one", Bench.FULL, v -> v.count(6, by));
            Twins.withKey(Scene.NOBODY).failures(4).leave("count of a SHUT one", Bench.FULL, v -> v.count(6, by));
        }
        Bench b = Scene.make();
        b.vault.restart();
        Check.due("after restart", 4, b.vault.count(6, -1));
    }

    private static void chained() {
        for (int n : new int[] {0, 1, 23, 24, 32, 399, 400}) {
            Bench b = new Bench(2);
            b.vault.define(0, 2, 0, -1);
            byte[] want = ZERO;
            for (int i = 0; i < 2; i++) {
                b.tape(Bench.row(n));
                Check.due("chain of " + n, 0, b.vault.chain(0, -1));
                Check.due("the tape is empty", 0, b.vault.look(7));
                want = Bench.h(want, Bench.row(n));
                Check.due("the CHAIN", want, bytes(b, 0));
            }
            b.vault.undefine(0);
            b.vault.define(0, 2, 0, -1);
            b.vault.chain(0, -1);
            Check.due("one that is new in its place", Bench.h(ZERO), bytes(b, 0));
        }
        Asked.by("chain", true, (v, by) -> v.chain(2, by));
    }

    private static void chainOfNoneAndShut() {
        for (int by : BYS) {
            for (int value : new int[] {7, 0, 1, 3, 4, 5, 6}) {
                Twins.withKey(Scene.THINGS).leaveButTape("chain(" + value + ")", Bench.NONE, v -> v.chain(value, by));
                Twins.withKey(Scene.NOBODY).failures(4)
                    .leaveButTape("chain(" + value + ")", Bench.NONE, v -> v.chain(value, by));
            }
            for (int value : NO_VALUE) {
                Twins.withKey(Scene.NOBODY).leaveButTape("chain(" + value + ")", Bench.NONE, v -> v.chain(value, by));
            }
            Twins.withKey(Scene.THINGS).after(b -> {
                b.vault.shut(2, -1);
                b.fail(by == 4 ? 2 : 0).tape("x");
            }).leaveButTape("chain of a SHUT one by " + by, Bench.FULL, v -> v.chain(2, by));
        }
        Bench b = Scene.make();
        Check.due("chain of a CHAIN", 0, b.vault.chain(2, -1));
        b.vault.shut(2, -1);
        b.vault.restart();
        Check.due("after restart", 0, b.vault.chain(2, -1));
    }

    private static void readOfEdges() {
        for (int size : new int[] {1, 2, 63, 64}) {
            Bench b = plain(size);
            b.tape(Bench.row(size)).vault.write(0, 0, -1);
            b.tape("stays");
            Check.due("read of " + size, size, b.vault.read(0, -1));
            Check.due("octet(-1)", size, b.vault.octet(-1));
            Check.due("OUT", Bench.row(size), b.out());
            Check.due("the tape stays", 5, b.vault.look(7));
            b.vault.shut(0, -1);
            Check.due("read of a SHUT one", size, b.vault.read(0, -1));
        }
        Asked.by("read of a PLAIN one", false, (v, by) -> v.read(0, by));
        Asked.by("read of a COUNTER", false, (v, by) -> v.read(1, by));
        Asked.by("read of a CHAIN", false, (v, by) -> v.read(2, by));
        Asked.by("read of a SHUT one", false, (v, by) -> v.read(6, by));
    }

    private static void readOfNone() {
        for (int by : BYS) {
            Twins.withKey(Scene.THINGS).leave("read(7)", Bench.NONE, v -> v.read(7, by));
            Twins.withKey(Scene.NOBODY).failures(4).leave("read(7)", Bench.NONE, v -> v.read(7, by));
            for (int value : NO_VALUE) {
                Twins.withKey(Scene.NOBODY).leave("read(" + value + ")", Bench.NONE, v -> v.read(value, by));
            }
        }
        Bench b = Scene.make();
        b.key(Scene.OWNER);
        b.vault.undefine(0);
        Check.due("read of one undefined", Bench.NONE, b.vault.read(0, -1));
    }

    private static void readOfUnwritten() {
        for (int by : BYS) {
            for (int value = 3; value <= 4; value++) {
                int which = value;
                Twins.withKey(Scene.THINGS).leave("read(" + value + ")", Bench.FULL, v -> v.read(which, by));
                Twins.withKey(Scene.NOBODY).failures(4)
                    .leave("read(" + value + ")", Bench.FULL, v -> v.read(which, by));
            }
        }
        Bench b = new Bench(2);
        for (int kind = 0; kind < 3; kind++) {
            b.vault.define(kind, kind, 1, -1);
            Check.due("read of kind " + kind, Bench.FULL, b.vault.read(kind, -1));
        }
        b.vault.write(0, 0, -1);
        b.vault.count(1, -1);
        b.vault.chain(2, -1);
        for (int kind = 0; kind < 3; kind++) {
            Check.due("written once", new int[] {1, 8, 32}[kind], b.vault.read(kind, -1));
        }
        b.vault.restart();
        Check.due("written before restart", 1, b.vault.read(0, -1));
    }

    private static void shutOfAll() {
        for (int value = 0; value < 7; value++) {
            Bench b = Scene.make();
            b.tape("stays");
            byte[] out = b.out();
            for (int i = 0; i < 2; i++) {
                Check.due("shut(" + value + ")", 0, b.vault.shut(value, -1));
            }
            Check.due("the tape stays", 5, b.vault.look(7));
            Check.due("OUT stays", out, b.out());
            b.vault.end(0);
            int[] answers = {b.vault.write(value, 0, -1), b.vault.count(value, -1), b.vault.chain(value, -1)};
            int kind = new int[] {0, 1, 2, 0, 1, 0, 1}[value];
            for (int i = 0; i < 3; i++) {
                Check.due("a call of kind " + i, i == kind ? Bench.FULL : Bench.NONE, answers[i]);
            }
            Check.due("others are not SHUT", 0, b.vault.write(value == 0 ? 3 : 0, 0, -1));
        }
        int[] values = {0, 1, 2, 3, 6};
        for (int value : values) {
            Asked.by("shut(" + value + ")", false, (v, by) -> v.shut(value, by));
        }
    }

    private static void shutOfNone() {
        for (int by : BYS) {
            Twins.withKey(Scene.THINGS).leave("shut(7)", Bench.NONE, v -> v.shut(7, by));
            Twins.withKey(Scene.NOBODY).failures(4).leave("shut(7)", Bench.NONE, v -> v.shut(7, by));
            for (int value : NO_VALUE) {
                Twins.withKey(Scene.NOBODY).leave("shut(" + value + ")", Bench.NONE, v -> v.shut(value, by));
            }
        }
        Bench b = new Bench(2);
        b.vault.shut(0, -1);
        b.vault.define(0, 1, 0, -1);
        Check.due("what was none is not SHUT later", 1, b.vault.count(0, -1));
    }
}
