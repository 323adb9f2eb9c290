/** Promises 28 to 32: slacks and alternatives. */
public final class AlternativesTest {
    private static final int BAD_ARC = -102;
    private static final int BAD_VALUE = -103;
    private static final int NONE = -107;

    private static int wrong;

    private static void due(String call, long got, long want) {
        if (got != want) {
            wrong++;
            System.out.println(call + " answered " + got + ", due is " + want);
        }
    }

    public static void main(String[] args) {
        ordinary();
        errors();
        arcToTheRoot();
        arcThatCannotBeReached();
        equalArcs();
        onlyOne();
        theLowestIsLeftOut();
        afterAReuse();
        System.out.println(wrong == 0 ? "promises 28 to 32 hold" : wrong + " wrong answers");
        if (wrong != 0) {
            System.exit(1);
        }
    }

    /** Its arborescences: 0, 1, 3 for 16; 4, 2, 3 for 19; 0, 4, 3 for 26. */
    private static ArborescenceFinder cycle() {
        ArborescenceFinder x = new ArborescenceFinder();
        x.begin(4, 0);
        x.addArc(0, 1, 10);
        x.addArc(1, 2, 2);
        x.addArc(2, 1, 3);
        x.addArc(2, 3, 4);
        x.addArc(0, 2, 12);
        return x;
    }

    private static void ordinary() {
        ArborescenceFinder x = cycle();
        int[] without = {19, 19, 16, NONE, 16};
        int[] with = {16, 16, 19, 16, 19};
        int[] slack = {3, 3, 3, NONE, 3};
        for (int a = 0; a < 5; a++) {
            due("28 costWithout(" + a + ")", x.costWithout(a), without[a]);
            due("29 costWith(" + a + ")", x.costWith(a), with[a]);
            due("30 slack(" + a + ")", x.slack(a), slack[a]);
        }
        due("31 secondBest(0)", x.secondBest(0), 19);
        due("31 secondBest(1)", x.secondBest(1), 0);
        int[] necessary = {0, 1, 3, NONE, NONE};
        for (int k = 0; k < 5; k++) {
            due("32 necessary(" + k + ")", x.necessary(k), necessary[k]);
        }
        due("32 far beyond", x.necessary(Integer.MAX_VALUE), NONE);
        due("20 one run", x.runs(), 1);
        due("22 the record is the same", x.cost(), 16);
        due("23 the record is the same", x.enteringArc(1), 0);
        due("26 the record is the same", x.group(4, 1), 7);
    }

    private static void errors() {
        ArborescenceFinder x = cycle();
        int[] bad = {5, -1, 32, Integer.MAX_VALUE, Integer.MIN_VALUE};
        for (int a : bad) {
            due("28 no arc " + a, x.costWithout(a), BAD_ARC);
            due("29 no arc " + a, x.costWith(a), BAD_ARC);
            due("30 no arc " + a, x.slack(a), BAD_ARC);
        }
        due("31 what", x.secondBest(2), BAD_VALUE);
        due("31 what", x.secondBest(-1), BAD_VALUE);
        due("32 negative", x.necessary(-1), BAD_VALUE);
        due("20 no run", x.runs(), 0);
    }

    private static void arcToTheRoot() {
        ArborescenceFinder x = cycle();
        x.addArc(3, 0, 0);
        due("28 costWithout(5)", x.costWithout(5), 16);
        due("29 costWith(5)", x.costWith(5), NONE);
        due("30 slack(5)", x.slack(5), NONE);
    }

    /** Arc 1 leads back to the node by which alone its tail is reached. */
    private static void arcThatCannotBeReached() {
        ArborescenceFinder x = new ArborescenceFinder();
        x.begin(3, 0);
        x.addArc(0, 1, 8);
        x.addArc(2, 1, 1);
        x.addArc(1, 2, 1);
        due("22 cost()", x.cost(), 9);
        due("29 costWith(1)", x.costWith(1), NONE);
        due("30 slack(1)", x.slack(1), NONE);
        due("28 costWithout(1)", x.costWithout(1), 9);
        due("28 costWithout(0)", x.costWithout(0), NONE);
        due("31 no other", x.secondBest(0), NONE);
    }

    private static void equalArcs() {
        ArborescenceFinder x = new ArborescenceFinder();
        x.begin(3, 0);
        x.addArc(0, 1, 5);
        x.addArc(0, 1, 5);
        x.addArc(1, 2, 5);
        x.addArc(0, 2, 6);
        due("28 costWithout(0)", x.costWithout(0), 10);
        due("30 slack(0)", x.slack(0), 0);
        due("30 slack(1)", x.slack(1), 0);
        due("30 slack(2)", x.slack(2), 1);
        due("30 slack(3)", x.slack(3), 1);
        due("31 secondBest(0)", x.secondBest(0), 10);
        due("31 secondBest(1)", x.secondBest(1), 0);
        due("32 necessary(0)", x.necessary(0), 2);
        due("32 necessary(1)", x.necessary(1), NONE);
    }

    private static void onlyOne() {
        ArborescenceFinder x = new ArborescenceFinder();
        x.begin(2, 1);
        x.addArc(1, 0, 3);
        due("28 costWithout(0)", x.costWithout(0), NONE);
        due("29 costWith(0)", x.costWith(0), 3);
        due("30 slack(0)", x.slack(0), NONE);
        due("31 secondBest(0)", x.secondBest(0), NONE);
        due("31 secondBest(1)", x.secondBest(1), NONE);
        due("31 value before none", x.secondBest(2), BAD_VALUE);
        due("32 necessary(0)", x.necessary(0), 0);
    }

    private static void theLowestIsLeftOut() {
        ArborescenceFinder x = new ArborescenceFinder();
        x.begin(4, 0);
        x.addArc(0, 3, 9);
        x.addArc(0, 3, 4);
        x.addArc(0, 2, 4);
        x.addArc(0, 2, 6);
        x.addArc(0, 1, 4);
        x.addArc(0, 1, 6);
        due("31 secondBest(0)", x.secondBest(0), 14);
        due("31 of 2 and 4 the lowest", x.secondBest(1), 2);
        int[] necessary = {1, 2, 4, NONE};
        for (int k = 0; k < 4; k++) {
            due("32 necessary(" + k + ")", x.necessary(k), necessary[k]);
        }
    }

    /** With a record that stays, the arborescence need not be the one of a new contraction. */
    private static void afterAReuse() {
        ArborescenceFinder x = new ArborescenceFinder();
        x.begin(2, 0);
        x.addArc(0, 1, 7);
        x.addArc(0, 1, 5);
        due("23 enteringArc(1)", x.enteringArc(1), 1);
        x.setCost(0, 5);
        due("19 isRecorded()", x.isRecorded(), 1);
        due("23 the record stays", x.enteringArc(1), 1);
        due("31 secondBest(1)", x.secondBest(1), 1);
        due("30 slack(0)", x.slack(0), 0);
        due("32 necessary(0)", x.necessary(0), NONE);
        due("33 limitedArc(1) needs no record", x.limitedArc(1), 0);
    }
}
