import java.util.List;

/** That the scene holds what its text says, and tells it: else twins would be compared by nothing. */
public final class SceneTest {
    private SceneTest() {
    }

    public static void main(String[] args) {
        Bench b = Scene.make();
        b.fail(2).key(Scene.NOBODY).tape("tape");
        List<String> told = Scene.tell(b);
        String[] due = {
            "look(0) 2", "look(1) 150", "look(2) 1", "look(3) 3", "look(4) 3", "look(5) 3", "look(6) 7", "look(7) 4",
            "a blob by THE KEY 101", "a quote 74", "digest(0) 32", "digest(1) 32", "digest(2) 32", "digest(3) -1",
            "unlock by the owner 0", "value 5 by a code and a time 3", "object 0 by registers 5",
            "object 2 by the auth 5", "object 0 5", "object 1 6", "object 2 5", "object 3 -2", "value 0 8",
            "value 1 8", "value 2 32", "value 3 -3", "value 4 -3", "value 5 3", "value 6 8", "value 7 -2",
            "write(0) 0", "count(1) 3", "chain(2) 0", "write(3) 0", "count(4) 4", "write(5) 0", "count(6) -3",
            "write(7) -2", "load of one more 3"
        };
        for (String each : due) {
            Check.holds("the scene tells " + each, told.contains(each));
        }
        Check.finish("SceneTest");
    }
}
