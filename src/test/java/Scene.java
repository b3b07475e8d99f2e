import java.util.ArrayList;
import java.util.Arrays;
import java.util.List;

/** A vault that holds some of all that the document speaks of, and a way to have all of it told. */
final class Scene {
    static final String OWNER = "own", THINGS = "things", NOBODY = "nobody";

    /** Times and sizes of the scene that tests count with. */
    static final int CLOCK = 150, LATEST = 500, PLAIN_SIZE = 8;

    private Scene() {
    }

    /**
     * Values 0 PLAIN (8 bytes), 1 COUNTER, 2 CHAIN, 3 PLAIN and UNWRITTEN, 4 COUNTER and UNWRITTEN, 5 PLAIN with the
     * POLICY of session 1, 6 COUNTER and SHUT, 7 none; objects 0 with the POLICY of session 0, 1 with NO POLICY, 2 with
     * the POLICY of session 2, 3 free; sessions 0 with a condition of registers, 1 of code 5 and of a time, 2 of the
     * auth, 3 CLOSED. The owner's AUTH is that of "own", a thing's that of "things"; OUT is H("out").
     */
    static Bench make() {
        Bench b = new Bench(31);
        b.vault.restart();
        b.vault.tick(CLOCK);
        b.vault.open(1);
        b.vault.policyCode(1, 5);
        b.vault.policyTime(1, LATEST);
        int[][] kinds = {{0, PLAIN_SIZE, -1}, {1, 0, -1}, {2, 0, -1}, {0, 4, -1}, {1, 0, -1}, {0, 3, 1}, {1, 0, -1}};
        for (int i = 0; i < kinds.length; i++) {
            b.tape(THINGS).vault.define(i, kinds[i][0], kinds[i][1], kinds[i][2]);
        }
        b.tape(OWNER).vault.own();
        b.key(THINGS);
        b.tape("ab").vault.write(0, 2, -1);
        b.vault.count(1, -1);
        b.vault.count(1, -1);
        b.tape("link").vault.chain(2, -1);
        b.tape("xyz").vault.write(5, 0, -1);
        b.vault.count(6, -1);
        b.vault.shut(6, -1);
        b.tape("boot").vault.extend(0);
        b.tape("app").vault.extend(6);
        b.tape("user").vault.extend(7);
        b.vault.open(0);
        b.vault.policyState(0, 0x41);
        b.sealed("first", 0);
        b.sealed("second", -1);
        b.vault.open(2);
        b.vault.policyAuth(2);
        b.sealed("third", 2);
        b.tape("out").vault.hash();
        return b;
    }

    /** All that a vault of this scene can be made to tell, each with its name; the vault is used up by it. */
    static List<String> tell(Bench b) {
        List<String> told = new ArrayList<>();
        looks(b, told);
        told.add("OUT " + Arrays.toString(b.out()));
        b.vault.hash();
        told.add("H(TAPE) " + Arrays.toString(b.out()));
        told.add("a blob by THE KEY " + b.vault.seal(-1));
        gist(b, told);
        told.add("a quote " + b.vault.quote(255));
        b.vault.back();
        b.vault.state(255);
        b.vault.back();
        for (int s = 0; s < 4; s++) {
            told.add("digest(" + s + ") " + b.vault.digest(s));
            b.vault.back();
        }
        gist(b, told);
        b.key(OWNER);
        told.add("unlock by the owner " + b.vault.unlock());
        conditions(b, told);
        things(b, told);
        changes(b, told);
        looks(b, told);
        return told;
    }

    private static void looks(Bench b, List<String> told) {
        for (int what = 0; what < 8; what++) {
            told.add("look(" + what + ") " + b.vault.look(what));
        }
    }

    /** OUT comes behind the TAPE, and H of that is told: thirty-two bytes for as many as there were. */
    private static void gist(Bench b, List<String> told) {
        b.vault.back();
        b.vault.hash();
        told.add("H of that " + Arrays.toString(b.out()));
    }

    /** THE KEY is not the things' at first, so that a condition of the auth would be seen where none was told. */
    private static void conditions(Bench b, List<String> told) {
        b.vault.tick(LATEST - CLOCK);
        told.add("value 5 by a code and a time " + b.vault.read(5, 1));
        told.add("object 0 by registers " + b.vault.unseal(0, 0));
        told.add("object 2 by another's auth " + b.vault.unseal(2, 2));
        b.key(THINGS);
        told.add("object 2 by the auth " + b.vault.unseal(2, 2));
    }

    private static void things(Bench b, List<String> told) {
        for (int i = 0; i < 4; i++) {
            told.add("object " + i + " " + b.vault.unseal(i, -1));
            b.vault.back();
        }
        for (int i = 0; i < 8; i++) {
            told.add("value " + i + " " + b.vault.read(i, -1));
            b.vault.back();
        }
        gist(b, told);
    }

    /** What SHUT, the KIND, the size and THE GREATEST are, by calls that they bear on. */
    private static void changes(Bench b, List<String> told) {
        // Value 4, which is UNWRITTEN, before value 1, which would make a GREATEST of its own.
        for (int i = 7; i >= 0; i--) {
            told.add("write(" + i + ") " + b.vault.write(i, 0, -1));
            told.add("count(" + i + ") " + b.vault.count(i, -1));
            told.add("chain(" + i + ") " + b.vault.chain(i, -1));
        }
        told.add("load of one more " + b.sealed("more", -1));
    }
}
