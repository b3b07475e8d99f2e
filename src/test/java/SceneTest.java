import java.util.Arrays;
import java.util.List;

/** That the scene holds what its text says, and tells it: else twins would be compared by nothing. */
public final class SceneTest {
    private static final byte[] ZERO = new byte[32];
    private static final byte[] KEY = Bench.h(Bench.text(Scene.NOBODY));

    private SceneTest() {
    }

    public static void main(String[] args) {
        Bench b = Scene.make();
        b.fail(2).key(Scene.NOBODY).tape("tape");
        List<String> told = Scene.tell(b);
        String[] due = {
            "look(0) 2", "look(1) 150", "look(2) 1", "look(3) 3", "look(4) 3", "look(5) 3", "look(6) 7", "look(7) 4",
            bytes("OUT", Bench.text("out")), bytes("H(TAPE)", Bench.text("tape")), "a blob by THE KEY 101",
            bytes("H of that", Bench.blob(Bench.seedOf(31), 3, ZERO, KEY, 0, new byte[0])), "a quote 74",
            "digest(0) 32", "digest(1) 32", "digest(2) 32", "digest(3) -1", bytes("H of that", measured()),
            "unlock by the owner 0", "value 5 by a code and a time 3", "object 0 by registers 5",
            "object 2 by another's auth -4", "object 2 by the auth 5", "object 0 5", "object 1 6", "object 2 5",
            "object 3 -2", "value 0 8", "value 1 8", "value 2 32", "value 3 -3", "value 4 -3", "value 5 3", "value 6 8",
            "value 7 -2", bytes("H of that", kept()), "write(7) -2", "count(7) -2", "chain(7) -2", "write(6) -2",
            "count(6) -3", "chain(6) -2", "write(5) 0", "count(5) -2", "chain(5) -2", "write(4) -2", "count(4) 4",
            "chain(4) -2", "write(3) 0", "count(3) -2", "chain(3) -2", "write(2) -2", "count(2) -2", "chain(2) 0",
            "write(1) -2", "count(1) 3", "chain(1) -2", "write(0) 0", "count(0) -2", "chain(0) -2",
            "load of one more 3", "look(0) 1", "look(1) 500", "look(2) 1", "look(3) 5", "look(4) 4", "look(5) 0",
            "look(6) 7", "look(7) 0"
        };
        Check.due("how much the scene tells", due.length, told.size());
        for (int i = 0; i < Math.min(due.length, told.size()); i++) {
            Check.holds("the scene tells " + told.get(i) + ", due is " + due[i], due[i].equals(told.get(i)));
        }
        Check.finish("SceneTest");
    }

    private static String bytes(String name, byte[] hashed) {
        return name + " " + Arrays.toString(Bench.h(hashed));
    }

    private static byte[] extended(String word) {
        return Bench.h(ZERO, Bench.h(Bench.text(word)));
    }

    /** A quote, the STATE of all and the digests; what is none is told as what was before. */
    private static byte[] measured() {
        byte[] boot = extended("boot");
        byte[] app = extended("app");
        byte[] state = Bench.h(boot, new byte[160], app, extended("user"));
        byte[] told = Bench.cat(Bench.one(81), Bench.one(255), state, Bench.four(150), Bench.four(1));
        byte[] quote = Bench.cat(told, Bench.mac(Bench.mac(Bench.seedOf(31), Bench.one(81)), told));
        byte[] registers = Bench.h(ZERO, Bench.one(1), Bench.one(0x41), Bench.h(boot, app));
        byte[] timed = Bench.h(Bench.h(ZERO, Bench.one(3), Bench.one(5)), Bench.one(4), Bench.four(500));
        byte[] auth = Bench.h(ZERO, Bench.one(2));
        return Bench.cat(quote, state, registers, timed, auth, auth, auth);
    }

    /** The bytes of objects and values; what is none is told as what was before. */
    private static byte[] kept() {
        byte[] objects = Bench.text("firstsecondthirdthird");
        byte[] plain = {0, 0, 'a', 'b', 0, 0, 0, 0};
        byte[] two = {0, 0, 0, 0, 0, 0, 0, 2};
        byte[] three = {0, 0, 0, 0, 0, 0, 0, 3};
        byte[] chain = Bench.h(ZERO, Bench.text("link"));
        return Bench.cat(objects, plain, two, chain, chain, chain, Bench.text("xyz"), three, three, three);
    }
}
