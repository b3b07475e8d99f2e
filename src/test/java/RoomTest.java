import java.lang.management.ManagementFactory;

/** What the class makes: little in its constructor, and nothing in its calls. */
public final class RoomTest {
    private RoomTest() {
    }

    public static void main(String[] args) {
        // The first object and its calls load classes, and that is no room of theirs.
        calls(new MeasuredVault(3), 12);
        long first = made();
        MeasuredVault vault = new MeasuredVault(3);
        long before = made();
        calls(vault, 12);
        long after = made();
        Check.holds("a new object is small, but has " + (before - first) + " bytes", before - first < 20000);
        Check.holds("calls make nothing, but made " + (after - before) + " bytes", after - before < 2000);
        Check.finish("RoomTest");
    }

    private static long made() {
        return ((com.sun.management.ThreadMXBean) ManagementFactory.getThreadMXBean())
            .getThreadAllocatedBytes(Thread.currentThread().getId());
    }

    private static void calls(MeasuredVault v, int rounds) {
        for (int i = 0; i < rounds; i++) {
            for (int j = 0; j < 7; j++) {
                v.feed(i, j, i, j, i);
            }
            v.end(128);
            v.open(0);
            v.policyState(0, 255);
            v.policyAuth(0);
            v.policyCode(0, 1);
            v.policyTime(0, 1000);
            v.digest(0);
            v.seal(0);
            v.back();
            v.load();
            v.unseal(0, 0);
            v.flush(0);
            v.define(0, 0, 64, -1);
            v.write(0, 0, -1);
            v.read(0, -1);
            v.define(1, 1, 0, -1);
            v.count(1, -1);
            v.define(2, 2, 0, -1);
            v.chain(2, -1);
            v.shut(2, -1);
            v.extend(0);
            v.reset(7);
            v.quote(255);
            v.hash();
            v.back();
            v.back();
            v.policyOr(0);
            v.undefine(0);
            v.own();
            v.unlock();
            v.clear();
            v.tick(100);
            v.restart();
            v.look(4);
        }
    }
}
