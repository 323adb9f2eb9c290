import java.lang.management.ManagementFactory;

/** All calls of a run live in one room: no call makes objects. */
public final class RoomTest {
    private static final com.sun.management.ThreadMXBean THREADS =
            (com.sun.management.ThreadMXBean) ManagementFactory.getThreadMXBean();
    private static final long ROUNDS = 2000;

    public static void main(String[] args) {
        ArborescenceFinder x = new ArborescenceFinder();
        // The first rounds load classes.
        for (int i = 0; i < 10; i++) {
            round(x, i);
        }
        long before = allocated();
        for (int i = 0; i < ROUNDS; i++) {
            round(x, i);
        }
        long bytes = allocated() - before;
        // A single object in each round would be 16 bytes a round.
        boolean good = bytes < 16 * ROUNDS;
        System.out.println(good ? "no call makes objects" : bytes + " bytes in " + ROUNDS + " rounds");
        if (!good) {
            System.exit(1);
        }
    }

    private static long allocated() {
        return THREADS.getThreadAllocatedBytes(Thread.currentThread().getId());
    }

    private static void round(ArborescenceFinder x, int state) {
        x.begin(6, state % 6);
        x.addRandom(8, state);
        x.addRandom(8, state + 1);
        x.addRandom(8, state + 2);
        x.addArc(0, 1, 5);
        x.cost();
        x.setCost(3, state % 100);
        x.setLimit(1, 1);
        x.removeArc(2);
        x.save(state % 2);
        x.nodes();
        x.root();
        x.arcs();
        x.arc(1, 1);
        x.limit(1);
        x.enteringArc(2);
        x.outDegree(2);
        x.groups();
        x.group(6, 1);
        x.reducedCost(4);
        x.costWithout(4);
        x.costWith(4);
        x.slack(5);
        x.secondBest(0);
        x.necessary(0);
        x.limitedCost();
        x.limitedArc(2);
        x.priceBound(20, 3);
        x.price(1, 20, 3);
        x.arborescences();
        x.arborescencesWith(3);
        x.setRoot(0);
        x.undo();
        x.wipe();
        x.write('2');
        x.write('/');
        x.write('0');
        x.fault();
        x.load();
        x.isRecorded();
        x.runs();
        x.reuses();
        x.restore(state % 2);
    }
}
