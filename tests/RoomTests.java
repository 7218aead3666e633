import java.lang.management.ManagementFactory;

/** The dearest calls end soon and make no objects: all that they need stands since the object was made. */
public final class RoomTests {
    private static int wrong = 0;

    private static void due(boolean isSo, String what) {
        if (!isSo) {
            wrong++;
            System.out.println(what);
        }
    }

    private static long made() {
        return ((com.sun.management.ThreadMXBean) ManagementFactory.getThreadMXBean())
            .getThreadAllocatedBytes(Thread.currentThread().getId());
    }

    /** A ring of two lists, with four variables on it, is gone round by 20 loads that part the lists. */
    private static int walkRound(Heapwitness x, int variable) {
        int whole = x.load(variable, variable);
        for (int i = 1; i < 20; i++) {
            whole = x.follow(whole, x.load(variable, variable));
        }
        return whole;
    }

    public static void main(String[] args) {
        Heapwitness x = new Heapwitness();
        int ring = x.addAssertion();
        x.addAtom(ring, true, 1, 2);
        x.addAtom(ring, true, 2, 1);
        int all = x.addAssertion();
        for (int v = 1; v <= 4; v++) {
            x.addFact(all, true, v, v);
        }
        x.addAtom(all, true, 1, 0);
        int round = walkRound(x, 1);
        long before = made();
        char end = 'p';
        for (int i = 0; i < 120; i++) {
            end = x.prove(all, round, all);
            end = x.prove(ring, round, all);
            x.witnesses(ring, round, all);
            x.isSound();
        }
        long bytes = made() - before;
        due(end == 'w', "a ring that can be empty went on to " + end);
        due(x.states(all) == 122, "the most states are " + x.states(all));
        due(bytes < 100000, "480 calls made objects of " + bytes + " bytes");
        long start = made();
        new Heapwitness();
        long size = made() - start;
        due(size < 200000, "a new object has " + size + " bytes");
        System.out.println(wrong == 0 ? "the room is as due" : wrong + " things are not as due");
        if (wrong != 0) {
            System.exit(1);
        }
    }
}
