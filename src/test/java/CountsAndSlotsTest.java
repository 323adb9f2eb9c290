/** Promises 37 to 40: counts and saved states. */
public final class CountsAndSlotsTest {
    private static final int BAD_ARC = -102;
    private static final int BAD_VALUE = -103;
    private static final int NOT_POSSIBLE = -105;

    private static int wrong;

    private static void due(String call, long got, long want) {
        if (got != want) {
            wrong++;
            System.out.println(call + " answered " + got + ", due is " + want);
        }
    }

    public static void main(String[] args) {
        complete();
        parallel();
        countErrors();
        cycles();
        slots();
        slotsHoldAll();
        slotErrors();
        System.out.println(wrong == 0 ? "promises 37 to 40 hold" : wrong + " wrong answers");
        if (wrong != 0) {
            System.exit(1);
        }
    }

    /** A complete graph with n nodes has n to the power of n - 2 trees (Cayley). */
    private static void complete() {
        long[] trees = {0, 0, 1, 3, 16, 125, 1296};
        for (int n = 2; n <= 6; n++) {
            for (int root = 0; root < n; root++) {
                ArborescenceFinder x = new ArborescenceFinder();
                x.begin(n, root);
                for (int u = 0; u < n; u++) {
                    for (int v = 0; v < n; v++) {
                        x.addArc(u, v, 1);
                    }
                }
                due("37 complete graph", x.arborescences(), trees[n]);
                // An edge is in 2 n to the power of n - 3 trees; only at the root its direction is fixed.
                for (int a = 0; a < x.arcs(); a++) {
                    long withEdge = 2 * trees[n] / n;
                    long want = x.arc(a, 1) == root ? 0 : x.arc(a, 0) == root ? withEdge : withEdge / 2;
                    due("38 complete graph", x.arborescencesWith(a), want);
                }
                due("20 no run", x.runs(), 0);
            }
        }
    }

    private static void parallel() {
        ArborescenceFinder x = new ArborescenceFinder();
        x.begin(8, 3);
        int arc = 0;
        for (int i = 0; i < 32; i++) {
            int head = i % 7;
            x.addArc(3, head >= 3 ? head + 1 : head, 50);
            arc = i;
        }
        due("37 as many as can be", x.arborescences(), 40000);
        due("38 arcs to a head with 5", x.arborescencesWith(0), 8000);
        due("38 arcs to a head with 4", x.arborescencesWith(6), 10000);
        due("38 the last", x.arborescencesWith(arc), 8000);
    }

    private static void countErrors() {
        ArborescenceFinder x = new ArborescenceFinder();
        due("37 no arcs", x.arborescences(), 0);
        due("38 no arcs", x.arborescencesWith(0), BAD_ARC);
        x.addArc(0, 1, 1);
        due("38 negative", x.arborescencesWith(-1), BAD_ARC);
        due("38 beyond", x.arborescencesWith(1), BAD_ARC);
        due("38 wild", x.arborescencesWith(Integer.MIN_VALUE), BAD_ARC);
        due("38 no arborescence", x.arborescencesWith(0), 0);
        due("37 no arborescence", x.arborescences(), 0);
    }

    private static void cycles() {
        ArborescenceFinder x = new ArborescenceFinder();
        x.begin(3, 0);
        x.addArc(1, 2, 1);
        x.addArc(2, 1, 1);
        due("37 only a cycle", x.arborescences(), 0);
        x.addArc(0, 1, 1);
        due("37 one way in", x.arborescences(), 1);
        due("38 the arc back", x.arborescencesWith(1), 0);
        due("38 the way in", x.arborescencesWith(2), 1);
        x.addArc(2, 0, 1);
        due("38 to the root", x.arborescencesWith(3), 0);
        x.setRoot(1);
        due("37 another root", x.arborescences(), 1);
        due("38 another root", x.arborescencesWith(3), 1);
        due("38 another root", x.arborescencesWith(2), 0);
    }

    private static void slots() {
        ArborescenceFinder x = new ArborescenceFinder();
        x.begin(2, 0);
        x.addArc(0, 1, 5);
        due("39 save(0)", x.save(0), 1);
        x.addArc(0, 1, 6);
        due("39 save(1)", x.save(1), 2);
        due("39 no change", x.undo(), 2);
        x.begin(4, 3);
        due("40 restore(1)", x.restore(1), 2);
        due("40 nodes()", x.nodes(), 2);
        due("40 root()", x.root(), 0);
        due("40 cost of 1", x.arc(1, 2), 6);
        due("40 nothing to undo", x.undo(), NOT_POSSIBLE);
        due("40 restore(0)", x.restore(0), 1);
        due("40 arcs()", x.arcs(), 1);
        x.setCost(0, 9);
        due("40 the slot stays", x.restore(0), 1);
        due("40 the slot is apart", x.arc(0, 2), 5);
        x.setCost(0, 8);
        due("39 replacing", x.save(0), 1);
        x.begin(2, 0);
        due("40 replaced", x.restore(0), 1);
        due("40 replaced", x.arc(0, 2), 8);
        due("14 a change after it", x.addArc(0, 1, 1), 1);
        due("14 can be undone", x.undo(), 0);
    }

    private static void slotsHoldAll() {
        ArborescenceFinder x = new ArborescenceFinder();
        x.begin(3, 0);
        x.addArc(0, 1, 5);
        x.addArc(1, 2, 5);
        x.setLimit(1, 2);
        x.save(0);
        x.cost();
        x.setCost(0, 7);
        x.save(1);
        x.write('2');
        x.setLimit(1, 4);
        due("40 restore(0)", x.restore(0), 2);
        due("40 without a record", x.isRecorded(), 0);
        due("40 limit", x.limit(1), 2);
        due("40 runs stay", x.runs(), 1);
        due("40 reuses stay", x.reuses(), 2);
        due("40 the text stays", x.wipe(), 1);
        due("40 restore(1)", x.restore(1), 2);
        due("40 with the record", x.isRecorded(), 1);
        due("40 its duals", x.group(1, 1), 7);
        due("40 its cost", x.cost(), 12);
        due("40 runs stay", x.runs(), 1);
        due("40 no reuse", x.reuses(), 2);
        x.setCost(0, 8);
        due("40 the slot's record is apart", x.restore(1), 2);
        due("40 the slot's record is apart", x.group(1, 1), 7);
    }

    private static void slotErrors() {
        ArborescenceFinder x = new ArborescenceFinder();
        due("39 beyond", x.save(2), BAD_VALUE);
        due("39 negative", x.save(-1), BAD_VALUE);
        due("40 beyond", x.restore(2), BAD_VALUE);
        due("40 negative", x.restore(Integer.MIN_VALUE), BAD_VALUE);
        x.addArc(0, 1, 1);
        due("39 save(1)", x.save(1), 1);
        due("40 the other is empty", x.restore(0), NOT_POSSIBLE);
        due("40 an error clears nothing", x.undo(), 0);
    }
}
