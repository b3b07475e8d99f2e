import java.util.Arrays;
import java.util.HexFormat;

/** What the document says under "Terms" of bytes, blobs and of what there is at first, sentence by sentence. */
public final class TermsEdgesTest {
    private static final byte[] ZERO = new byte[32];

    private TermsEdgesTest() {
    }

    public static void main(String[] args) {
        Sentences says = new Sentences();
        says.words("What it is", "1 to 35", "An object is used for at most 512 calls after it has been made",
            TermsEdgesTest::lastCall);
        says.term("2, 3, 5", "THE TAPE has bytes, none at first, at most 400", TermsEdgesTest::tapeHasBytes);
        says.term("6, 7, 8, 11, 17, 19, 20, 23, 25, 27, 30", "calls that read it (hash, key, extend, quote, policyOr, "
            + "seal, load, define, write, chain, own) empty it, whatever they answer.", TapeReaders::emptyIt);
        says.term("4, 11, 18, 19, 21, 28", "OUT has bytes, none at first; it stays by calls that refuse.",
            TermsEdgesTest::outStays);
        says.term("6", "H(x): SHA-256 of bytes x: 32 bytes.", TermsEdgesTest::knownHashes);
        says.term("11, 19", "MAC(k, x), k of 32 bytes: H(k' H(k\" x)), k\" being k and 32 bytes 0, each byte with 54 "
            + "by exclusive or, k' the same with 92.", TermsEdgesTest::macByItsWords);
        says.term("2, 11, 16", "Numbers in bytes: the highest first. x y: one behind the other.",
            TermsEdgesTest::highestFirst);
        says.term("1", "THE SEED: 32 bytes: H of the bytes 83, 69, 69, 68 and 4 bytes of what the module is made with.",
            TermsEdgesTest::seedByItsWords);
        says.term("31, 33, 34", "THE CLOCK, 0 at first; RESTARTS, 0 at first; FAILURES, 0 at first.",
            TermsEdgesTest::countsAtFirst);
        says.term("7", "THE KEY: 32 bytes: H of what key told; H of no bytes at first.", TermsEdgesTest::keyAtFirst);
        says.term("30", "THE OWNER has an AUTH, 32 bytes: at first H of no bytes.", TermsEdgesTest::ownerAtFirst);
        says.term("8 to 11", "REGISTERS 0 to 7: 32 bytes each, 0 at first. STATE of a set of them (bits 0 to 7): "
            + "H of them, by rising numbers, one behind the other.", TermsEdgesTest::registersAtFirst);
        says.term("12 to 18", "SESSIONS 0 to 3: CLOSED, as at first, or open: with a DIGEST, 32 bytes, and CONDITIONS.",
            TermsEdgesTest::sessionsAtFirst);
        says.term("19, 20", "BLOB of data (0 to 128 bytes d), an AUTH a and a POLICY p: N, 4 bytes, how many blobs "
            + "were made before; p; C; M:", TermsEdgesTest::blobsInTheirOrder);
        says.term("19", "C is a, one byte, how many bytes d has, and d, each byte by exclusive or with the byte of its "
            + "place in H(E 0) H(E 1) .. (the last one a byte), E = MAC(SEED, the byte 69 and N)",
            TermsEdgesTest::coverByItsWords);
        says.term("19", "M = MAC(MAC(SEED, the byte 77 and N), N p C).", TermsEdgesTest::markByItsWords);
        says.term("23 to 29", "VALUES 0 to 7: none at first; each has a KIND: 0 PLAIN, 1 to 64 bytes; 1 COUNTER, "
            + "8 bytes; 2 CHAIN, 32 bytes; it is UNWRITTEN at first; it may be SHUT (till the next restart).",
            TermsEdgesTest::valuesAtFirst);
        says.term("26", "THE GREATEST: of all numbers that counters had, 0 at first.", TermsEdgesTest::greatestAtFirst);
        AskingEdges.tell(says);
        says.cover("Terms");
        Check.finish("TermsEdgesTest");
    }

    /** The last of 512 calls is as good as the first. */
    private static void lastCall() {
        Bench b = new Bench(8);
        b.tape("abc").vault.seal(-1);
        b.vault.back();
        b.vault.load();
        b.vault.define(0, 1, 0, -1);
        for (int calls = 7; calls < 511; calls += 2) {
            Check.due("count", (calls - 5) / 2, b.vault.count(0, -1));
            b.vault.tick(1);
        }
        Check.due("the last call", 3, b.vault.unseal(0, -1));
    }

    private static void tapeHasBytes() {
        Bench b = new Bench(8);
        Check.due("at first", 0, b.vault.look(7));
        b.vault.hash();
        Check.due("H of none", Bench.h(), b.out());
        for (int i = 1; i <= 12; i++) {
            Check.due("back", 32 * i, b.vault.back());
        }
        Check.due("back to 416", Bench.FULL, b.vault.back());
        Check.due("feed to 404", Bench.FULL, b.vault.feed(0, 0, 0, 0, 0));
        b.vault.end(380);
        Check.due("feed to 400", 400, b.vault.feed(0, 0, 0, 0, 0));
        Check.due("feed to 420", Bench.FULL, b.vault.feed(0, 0, 0, 0, 0));
        Check.due("it has", 400, b.vault.look(7));
    }

    private static void outStays() {
        Check.due("at first", 0, new Bench(8).vault.octet(-1));
        for (boolean empty : new boolean[] {false, true}) {
            refuses(empty, "quote", Bench.REFUSED, 2, b -> b.tape(Bench.row(33)).vault.quote(1));
            refuses(empty, "digest", Bench.REFUSED, 2, b -> b.vault.digest(3));
            refuses(empty, "seal of another", Bench.REFUSED, 2, b -> b.vault.seal(4));
            refuses(empty, "seal of more", Bench.REFUSED, 2, b -> b.tape(Bench.row(129)).vault.seal(-1));
            refuses(empty, "unseal", Bench.NONE, 2, b -> b.vault.unseal(4, -1));
            refuses(empty, "unseal", Bench.REFUSED, 2, b -> b.vault.unseal(1, 4));
            refuses(empty, "unseal", Bench.WRONG, 2, b -> b.vault.unseal(1, 1));
            refuses(empty, "unseal", Bench.DENIED, 2, b -> b.vault.unseal(1, -1));
            refuses(empty, "unseal", Bench.LOCKED, 4, b -> b.vault.unseal(1, -1));
            refuses(empty, "read", Bench.NONE, 2, b -> b.vault.read(7, -1));
            refuses(empty, "read", Bench.FULL, 2, b -> b.vault.read(3, -1));
            refuses(empty, "read", Bench.REFUSED, 2, b -> b.vault.read(0, 3));
            refuses(empty, "read", Bench.WRONG, 2, b -> b.vault.read(0, 1));
            refuses(empty, "read", Bench.DENIED, 2, b -> b.vault.read(0, -1));
            refuses(empty, "read", Bench.LOCKED, 4, b -> b.vault.read(0, -1));
        }
    }

    private interface Deed {
        int on(Bench b);
    }

    private static void refuses(boolean empty, String name, int want, int failures, Deed deed) {
        Bench b = Scene.make();
        if (empty) {
            b.sealed("", -1);
            b.vault.unseal(3, -1);
        }
        b.fail(failures);
        Check.due(name, want, deed.on(b));
        Check.due("OUT stays by " + name, empty ? new byte[0] : Bench.h(Bench.text("out")), b.out());
    }

    /** Told in full, so as not to lean on a library's hash alone. */
    private static void knownHashes() {
        String[][] known = {
            {"", "e3b0c44298fc1c149afbf4c8996fb92427ae41e4649b934ca495991b7852b855"},
            {"abc", "ba7816bf8f01cfea414140de5dae2223b00361a396177a9cb410ff61f20015ad"},
            {"abcdbcdecdefdefgefghfghighijhijkijkljklmklmnlmnomnopnopq",
                "248d6a61d20638b8e5c026930c3e6039a33ce45964ff2167f6ecedd419db06c1"},
            {"abcdefghbcdefghicdefghijdefghijkefghijklfghijklmghijklmnhijklmnoijklmnopjklmnopqklmnopqrlmnopqrsmnopqrst"
                + "nopqrstu", "cf5b16a778af8380036ce59e7b0492370b249b11e8f07a51afac45037afee9d1"}
        };
        for (String[] each : known) {
            Bench b = new Bench(8);
            Check.due("hash", 32, b.tape(each[0]).vault.hash());
            Check.due("H(" + each[0] + ")", HexFormat.of().parseHex(each[1]), b.out());
        }
    }

    private static byte[] padded(byte[] key, int with) {
        byte[] made = new byte[64];
        System.arraycopy(key, 0, made, 0, 32);
        for (int i = 0; i < 64; i++) {
            made[i] ^= (byte) with;
        }
        return made;
    }

    private static byte[] mac(byte[] key, byte[]... parts) {
        return Bench.h(padded(key, 92), Bench.h(padded(key, 54), Bench.cat(parts)));
    }

    private static void macByItsWords() {
        for (int n = 0; n <= 32; n++) {
            Bench b = new Bench(8);
            b.tape(Bench.row(n)).vault.quote(0);
            byte[] told = Bench.cat(Bench.one(81), Bench.one(0), Bench.h(), new byte[8], Bench.row(n));
            Check.due("a quote with " + n, Bench.cat(told, mac(mac(Bench.seedOf(8), Bench.one(81)), told)), b.out());
        }
    }

    private static void highestFirst() {
        Bench b = new Bench(8);
        b.vault.feed(0x01020304, 0, 0, 0, 0);
        b.vault.end(4);
        b.vault.hash();
        Check.due("feed", Bench.h(new byte[] {1, 2, 3, 4}), b.out());
        b.vault.open(0);
        b.vault.policyTime(0, 0x05060708);
        Check.due("policyTime", Bench.h(ZERO, new byte[] {4, 5, 6, 7, 8}), b.digest(0));
        b.vault.tick(66051);
        b.vault.restart();
        b.vault.restart();
        b.vault.quote(0);
        byte[] want = {0, 1, 2, 3, 0, 0, 0, 2};
        for (int i = 0; i < 8; i++) {
            Check.due("THE CLOCK and RESTARTS in a quote", want[i], b.vault.octet(34 + i));
        }
    }

    private static void seedByItsWords() {
        for (int number : new int[] {0, 1, 255, 256, 0x01020304, -1, Bench.LEAST, Bench.MOST}) {
            byte[] four = {(byte) (number >> 24), (byte) (number >> 16), (byte) (number >> 8), (byte) number};
            byte[] seed = Bench.h(new byte[] {83, 69, 69, 68}, four);
            Bench b = new Bench(number);
            b.vault.seal(-1);
            Check.due("a blob of " + number, Bench.blob(seed, 0, ZERO, Bench.h(), 0, new byte[0]), b.out());
        }
    }

    private static void countsAtFirst() {
        Bench b = new Bench(8);
        Check.due("FAILURES", 0, b.vault.look(0));
        Check.due("THE CLOCK", 0, b.vault.look(1));
        Check.due("RESTARTS", 0, b.vault.look(2));
        b.vault.quote(0);
        for (int i = 34; i < 42; i++) {
            Check.due("in a quote, byte " + i, 0, b.vault.octet(i));
        }
        Check.due("the first restart", 1, b.vault.restart());
        b.vault.open(0);
        b.vault.policyTime(0, 0);
        b.things(0);
        Check.due("THE CLOCK is not above 0", 3, b.vault.unseal(0, 0));
    }

    private static void keyAtFirst() {
        Bench b = new Bench(8);
        b.vault.define(0, 1, 0, -1);
        Check.due("H of no bytes", 1, b.vault.count(0, -1));
        b.key("told");
        Check.due("another", Bench.DENIED, b.vault.count(0, -1));
        b.key("");
        Check.due("H of no bytes again", 2, b.vault.count(0, -1));
        b.tape("told").vault.define(1, 1, 0, -1);
        b.key("told");
        Check.due("what key told", 3, b.vault.count(1, -1));
        b.vault.restart();
        Check.due("it stays by restart", 4, b.vault.count(1, -1));
    }

    private static void ownerAtFirst() {
        Bench b = new Bench(8);
        Check.due("THE KEY as at first", 0, b.vault.clear());
        b.key("");
        Check.due("THE KEY of no bytes", 0, b.vault.clear());
        b.key("x");
        Check.due("another", Bench.DENIED, b.vault.clear());
    }

    private static void registersAtFirst() {
        Bench b = new Bench(8);
        for (int set = 0; set < 256; set += 17) {
            Check.due("STATE of " + set, Bench.h(new byte[32 * Integer.bitCount(set)]), b.state(set));
        }
        byte[] seven = Bench.h(ZERO, Bench.h(Bench.text("7")));
        byte[] none = Bench.h(ZERO, Bench.h(Bench.text("0")));
        b.tape("7").vault.extend(7);
        b.tape("0").vault.extend(0);
        Check.due("by rising numbers", Bench.h(none, seven), b.state(0x81));
        Check.due("0 alone", Bench.h(none), b.state(1));
        Check.due("7 alone", Bench.h(seven), b.state(0x80));
        Check.due("bit 8 is none", Bench.h(none), b.state(0x101));
    }

    private static void sessionsAtFirst() {
        Bench b = new Bench(8);
        for (int s = 0; s < 4; s++) {
            Check.due("CLOSED at first", Bench.REFUSED, b.vault.digest(s));
        }
        Check.due("none is open", 0, b.vault.look(5));
        for (int s = -1; s <= 4; s++) {
            Check.due("open(" + s + ")", s >= 0 && s <= 3 ? 0 : Bench.REFUSED, b.vault.open(s));
        }
        Check.due("four are open", 4, b.vault.look(5));
        b.vault.policyAuth(3);
        Check.due("a DIGEST of its own", ZERO, b.digest(2));
    }

    private static byte[] numberOf(Bench b) {
        return Arrays.copyOf(b.out(), 4);
    }

    private static void blobsInTheirOrder() {
        Bench b = new Bench(8);
        for (int n = 0; n < 257; n++) {
            b.vault.seal(-1);
        }
        Check.due("256 before", Bench.four(256), numberOf(b));
        Check.due("blobs made", 257, b.vault.look(3));
        b.vault.back();
        Check.due("one that is loaded", 0, b.vault.load());
        Check.due("one that is refused", Bench.REFUSED, b.vault.seal(4));
        b.vault.restart();
        b.vault.clear();
        Check.due("the next, after restart and clear", 101, b.vault.seal(-1));
        Check.due("257 before", Bench.four(257), numberOf(b));
        for (int n : new int[] {0, 1, 127, 128, 129}) {
            Bench sized = new Bench(8);
            Check.due("a blob of " + n, n <= 128 ? 4 + 32 + 33 + n + 32 : Bench.REFUSED,
                sized.tape(Bench.row(n)).vault.seal(-1));
        }
    }

    private static void coverByItsWords() {
        byte[] seed = Bench.seedOf(8);
        for (int n : new int[] {0, 127, 128}) {
            Bench b = new Bench(8);
            b.vault.seal(-1);
            b.tape(Bench.row(n)).vault.seal(-1);
            byte[] e = mac(seed, Bench.one(69), Bench.four(1));
            byte[] mask = {};
            for (int i = 0; i < 6; i++) {
                mask = Bench.cat(mask, Bench.h(e, Bench.one(i)));
            }
            byte[] plain = Bench.cat(Bench.h(), Bench.one(n), Bench.row(n));
            for (int i = 0; i < plain.length; i++) {
                Check.due("byte " + i + " of C", (plain[i] ^ mask[i]) & 255, b.vault.octet(36 + i));
            }
        }
    }

    private static void markByItsWords() {
        for (int n : new int[] {0, 1, 128}) {
            Bench b = new Bench(8);
            b.vault.open(0);
            b.vault.policyAuth(0);
            b.tape(Bench.row(n)).vault.seal(0);
            byte[] blob = b.out();
            byte[] before = Arrays.copyOf(blob, 69 + n);
            byte[] key = mac(Bench.seedOf(8), Bench.one(77), Bench.four(0));
            Check.due("M", Bench.cat(before, mac(key, before)), blob);
            byte[] policy = Bench.h(ZERO, Bench.one(2));
            Check.due("N and p", Bench.cat(new byte[4], policy), Arrays.copyOf(blob, 36));
        }
    }

    private static void valuesAtFirst() {
        Bench b = new Bench(8);
        for (int i = 0; i < 8; i++) {
            Check.due("none at first", Bench.NONE, b.vault.shut(i, -1));
        }
        int[][] kinds = {{0, 1, 1}, {0, 64, 64}, {1, 1, 8}, {2, 1, 32}};
        for (int i = 0; i < kinds.length; i++) {
            b.vault.define(i, kinds[i][0], kinds[i][1], -1);
            Check.due("UNWRITTEN at first", Bench.FULL, b.vault.read(i, -1));
            Check.due("not SHUT at first", 0, change(b.vault, i, kinds[i][0]));
            Check.due("its bytes", kinds[i][2], b.vault.read(i, -1));
            b.vault.shut(i, -1);
            Check.due("SHUT", Bench.FULL, change(b.vault, i, kinds[i][0]));
            b.vault.tick(100000);
            Check.due("SHUT still", Bench.FULL, change(b.vault, i, kinds[i][0]));
            Check.due("to be read still", kinds[i][2], b.vault.read(i, -1));
        }
        b.vault.restart();
        for (int i = 0; i < kinds.length; i++) {
            Check.due("till the next restart", 0, change(b.vault, i, kinds[i][0]));
        }
    }

    /** Writes, counts or chains: 0 if it was good. */
    private static int change(MeasuredVault v, int value, int kind) {
        return kind == 0 ? v.write(value, 0, -1) : kind == 1 ? Math.min(0, v.count(value, -1)) : v.chain(value, -1);
    }

    private static void greatestAtFirst() {
        Bench b = new Bench(8);
        b.vault.define(0, 1, 0, -1);
        b.vault.define(1, 1, 0, -1);
        Check.due("1 more than 0", 1, b.vault.count(0, -1));
        for (int i = 2; i < 9; i++) {
            Check.due("its own", i, b.vault.count(0, -1));
        }
        b.vault.undefine(0);
        Check.due("1 more than 8, which is gone", 9, b.vault.count(1, -1));
    }
}
