/** Promises 19 to 27: the record and the cheapest arborescence. */
public final class RecordTest {
    private static final int BAD_NODE = -101;
    private static final int BAD_ARC = -102;
    private static final int BAD_VALUE = -103;
    private static final int NO_ARBORESCENCE = -106;
    private static final int NONE = -107;

    private static int wrong;

    private static void due(String call, long got, long want) {
        if (got != want) {
            wrong++;
            System.out.println(call + " answered " + got + ", due is " + want);
        }
    }

    public static void main(String[] args) {
        theRecord();
        errors();
        runsWithoutArborescence();
        noRunsForOthers();
        addedArcs();
        removedArcs();
        costsOutside();
        costsInside();
        negativeDual();
        otherChanges();
        tiesAndOrder();
        nestedGroups();
        System.out.println(wrong == 0 ? "promises 19 to 27 hold" : wrong + " wrong answers");
        if (wrong != 0) {
            System.exit(1);
        }
    }

    /** Nodes 1 and 2 form group 4; the arborescence has the arcs 0, 1 and 3. */
    private static ArborescenceFinder cycle() {
        ArborescenceFinder x = new ArborescenceFinder();
        x.begin(4, 0);
        x.addArc(0, 1, 10);
        x.addArc(1, 2, 2);
        x.addArc(2, 1, 3);
        x.addArc(2, 3, 4);
        x.addArc(0, 2, 12);
        x.cost();
        return x;
    }

    private static void stays(String what, ArborescenceFinder x) {
        due(what + ": isRecorded()", x.isRecorded(), 1);
        due(what + ": reuses()", x.reuses(), 1);
        due(what + ": runs()", x.runs(), 1);
    }

    private static void dropped(String what, ArborescenceFinder x) {
        due(what + ": isRecorded()", x.isRecorded(), 0);
        due(what + ": reuses()", x.reuses(), 0);
        due(what + ": runs()", x.runs(), 1);
    }

    private static void theRecord() {
        ArborescenceFinder x = cycle();
        due("19 isRecorded()", x.isRecorded(), 1);
        due("20 runs()", x.runs(), 1);
        due("21 reuses()", x.reuses(), 0);
        due("22 cost()", x.cost(), 16);
        int[] entering = {NONE, 0, 1, 3};
        int[] degree = {1, 1, 1, 0};
        for (int v = 0; v < 4; v++) {
            due("23 enteringArc(" + v + ")", x.enteringArc(v), entering[v]);
            due("24 outDegree(" + v + ")", x.outDegree(v), degree[v]);
        }
        due("25 groups()", x.groups(), 5);
        int[][] group = {{1, 0, NONE}, {2, 3, 4}, {4, 2, 4}, {8, 4, NONE}, {6, 7, NONE}, {NONE, NONE, NONE}};
        for (int g = 0; g < 6; g++) {
            for (int what = 0; what < 3; what++) {
                due("26 group(" + g + ", " + what + ")", x.group(g, what), group[g][what]);
            }
        }
        int[] reduced = {0, 0, 0, 0, 3};
        for (int a = 0; a < 5; a++) {
            due("27 reducedCost(" + a + ")", x.reducedCost(a), reduced[a]);
        }
        due("20 one run for all", x.runs(), 1);
    }

    private static void errors() {
        ArborescenceFinder x = cycle();
        due("23 beyond", x.enteringArc(4), BAD_NODE);
        due("23 negative", x.enteringArc(-1), BAD_NODE);
        due("24 beyond", x.outDegree(4), BAD_NODE);
        due("24 negative", x.outDegree(Integer.MIN_VALUE), BAD_NODE);
        due("26 negative", x.group(-1, 0), BAD_VALUE);
        due("26 what", x.group(0, 3), BAD_VALUE);
        due("26 what", x.group(0, -1), BAD_VALUE);
        due("26 value before none", x.group(99, 3), BAD_VALUE);
        due("26 far beyond", x.group(Integer.MAX_VALUE, 2), NONE);
        due("27 beyond", x.reducedCost(5), BAD_ARC);
        due("27 negative", x.reducedCost(-1), BAD_ARC);
    }

    private static void runsWithoutArborescence() {
        ArborescenceFinder x = new ArborescenceFinder();
        x.addArc(1, 2, 1);
        due("22", x.cost(), NO_ARBORESCENCE);
        due("23", x.enteringArc(0), NO_ARBORESCENCE);
        due("24", x.outDegree(1), NO_ARBORESCENCE);
        due("25", x.groups(), NO_ARBORESCENCE);
        due("26", x.group(99, 0), NO_ARBORESCENCE);
        due("27", x.reducedCost(0), NO_ARBORESCENCE);
        due("20 six runs", x.runs(), 6);
        due("28", x.costWithout(0), NO_ARBORESCENCE);
        due("29", x.costWith(0), NO_ARBORESCENCE);
        due("30", x.slack(0), NO_ARBORESCENCE);
        due("31", x.secondBest(1), NO_ARBORESCENCE);
        due("32", x.necessary(99), NO_ARBORESCENCE);
        due("20 eleven runs", x.runs(), 11);
        due("19 nothing is recorded", x.isRecorded(), 0);
        x.setLimit(0, 1);
        due("21 nothing to reuse", x.reuses(), 0);
        // Errors that are named before NO_ARBORESCENCE make no run.
        x.enteringArc(5);
        x.outDegree(5);
        x.group(-1, 0);
        x.reducedCost(1);
        x.costWithout(1);
        x.costWith(1);
        x.slack(1);
        x.secondBest(2);
        x.necessary(-1);
        due("20 no run for errors", x.runs(), 11);
    }

    private static void noRunsForOthers() {
        ArborescenceFinder x = new ArborescenceFinder();
        x.begin(2, 0);
        x.addArc(0, 1, 3);
        x.limitedCost();
        x.limitedArc(1);
        x.priceBound(3, 3);
        x.price(0, 3, 3);
        x.arborescences();
        x.arborescencesWith(0);
        x.isRecorded();
        x.save(0);
        due("20 no run", x.runs(), 0);
        due("19 no record", x.isRecorded(), 0);
        due("28 makes the record", x.costWithout(0), NONE);
        due("19 record", x.isRecorded(), 1);
        due("20 one run", x.runs(), 1);
    }

    private static void addedArcs() {
        ArborescenceFinder x = cycle();
        due("3 reduced cost 0", x.addArc(3, 1, 10), 5);
        stays("3 reduced cost 0", x);
        due("27 reducedCost(5)", x.reducedCost(5), 0);
        x = cycle();
        due("3 reduced cost -1", x.addArc(3, 1, 9), 5);
        dropped("3 reduced cost -1", x);
        due("22 cost()", x.cost(), 16);
        due("20 runs()", x.runs(), 2);
        x = cycle();
        due("3 to the root", x.addArc(1, 0, 0), 5);
        stays("3 to the root", x);
        x = cycle();
        due("3 an error", x.addArc(1, 1, 0), BAD_NODE);
        due("3 an error: isRecorded()", x.isRecorded(), 1);
        due("3 an error: reuses()", x.reuses(), 0);
    }

    private static void removedArcs() {
        ArborescenceFinder x = cycle();
        due("4 not in the arborescence", x.removeArc(2), 4);
        stays("4 not in the arborescence", x);
        due("23 before it", x.enteringArc(1), 0);
        due("23 before it", x.enteringArc(2), 1);
        due("23 behind it", x.enteringArc(3), 2);
        due("22 cost()", x.cost(), 16);
        due("24 outDegree(2)", x.outDegree(2), 1);
        due("25 groups stay", x.groups(), 5);
        due("27 reducedCost(3)", x.reducedCost(3), 3);
        x = cycle();
        due("4 in the arborescence", x.removeArc(1), 4);
        dropped("4 in the arborescence", x);
        due("22 cost()", x.cost(), 19);
    }

    private static void costsOutside() {
        ArborescenceFinder x = cycle();
        x.setCost(4, 9);
        stays("5 reduced cost 0", x);
        due("27 reducedCost(4)", x.reducedCost(4), 0);
        due("26 group(2, 1)", x.group(2, 1), 2);
        x = cycle();
        x.setCost(4, 8);
        dropped("5 reduced cost -1", x);
        due("22 cost()", x.cost(), 15);
        x = cycle();
        x.setCost(2, 3);
        stays("5 the same cost", x);
        x = cycle();
        x.setCost(4, 99);
        stays("5 dearer", x);
    }

    private static void costsInside() {
        ArborescenceFinder x = cycle();
        x.setCost(0, 10);
        stays("5 the same cost inside", x);
        x = cycle();
        x.setCost(0, 11);
        dropped("5 dearer inside", x);
        due("22 cost()", x.cost(), 17);
        due("26 group(1, 1)", x.group(1, 1), 3);
        x = cycle();
        x.setCost(3, 99);
        stays("5 the only arc to its head", x);
        due("26 group(3, 1)", x.group(3, 1), 99);
        due("22 cost()", x.cost(), 111);
        due("27 reducedCost(3)", x.reducedCost(3), 0);
        x = cycle();
        x.setCost(1, 5);
        stays("5 as dear as the other allows", x);
        due("26 group(2, 1)", x.group(2, 1), 5);
        due("27 reducedCost(4)", x.reducedCost(4), 0);
        x = cycle();
        x.setCost(1, 6);
        dropped("5 dearer than the other allows", x);
    }

    private static void negativeDual() {
        ArborescenceFinder x = cycle();
        x.setCost(0, 2);
        stays("5 much cheaper inside", x);
        due("26 group(1, 1)", x.group(1, 1), -5);
        due("26 group(4, 1)", x.group(4, 1), 7);
        due("27 reducedCost(2)", x.reducedCost(2), 8);
        due("27 reducedCost(0)", x.reducedCost(0), 0);
        due("22 cost()", x.cost(), 8);
        due("3 by the new dual", x.addArc(3, 1, 1), 5);
        due("19 dropped", x.isRecorded(), 0);
    }

    private static void otherChanges() {
        ArborescenceFinder x = cycle();
        x.setLimit(0, 0);
        stays("7 setLimit", x);
        x = cycle();
        x.setLimit(0, 7);
        stays("7 the same limit", x);
        x = cycle();
        x.begin(4, 0);
        dropped("2 begin", x);
        x = cycle();
        x.addRandom(1, 1);
        dropped("8 addRandom", x);
        x = cycle();
        x.setRoot(0);
        dropped("6 setRoot", x);
        x = cycle();
        x.undo();
        dropped("14 undo", x);
    }

    private static void tiesAndOrder() {
        ArborescenceFinder x = new ArborescenceFinder();
        x.begin(3, 1);
        x.addArc(0, 2, 4);
        x.addArc(1, 2, 4);
        x.addArc(1, 0, 6);
        x.addArc(1, 0, 6);
        due("22 cost()", x.cost(), 10);
        due("23 the lowest number", x.enteringArc(2), 0);
        due("23 the lowest number", x.enteringArc(0), 2);
        due("23 the root", x.enteringArc(1), NONE);
        due("25 groups()", x.groups(), 3);
    }

    /** The cycle 1, 2 and then its group with 3 are contracted. */
    private static void nestedGroups() {
        ArborescenceFinder x = new ArborescenceFinder();
        x.begin(4, 0);
        x.addArc(1, 2, 1);
        x.addArc(2, 1, 1);
        x.addArc(3, 1, 4);
        x.addArc(2, 3, 2);
        x.addArc(0, 3, 20);
        due("22 cost()", x.cost(), 25);
        due("25 groups()", x.groups(), 6);
        due("26 the inner set", x.group(4, 0), 6);
        due("26 the inner dual", x.group(4, 1), 3);
        due("26 the inner whole", x.group(4, 2), 5);
        due("26 the outer set", x.group(5, 0), 14);
        due("26 the outer dual", x.group(5, 1), 18);
        due("26 the outer whole", x.group(5, 2), NONE);
        due("26 node 3", x.group(3, 2), 5);
        due("23 enteringArc(3)", x.enteringArc(3), 4);
        due("23 enteringArc(1)", x.enteringArc(1), 2);
        due("23 enteringArc(2)", x.enteringArc(2), 0);
    }
}
