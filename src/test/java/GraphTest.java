/** Promises 1 to 14: the graph and its changes. */
public final class GraphTest {
    private static final int BAD_NODE = -101;
    private static final int BAD_ARC = -102;
    private static final int BAD_VALUE = -103;
    private static final int FULL = -104;
    private static final int NOT_POSSIBLE = -105;
    private static final int MIN = Integer.MIN_VALUE;
    private static final int MAX = Integer.MAX_VALUE;

    private static int wrong;

    private static void due(String call, long got, long want) {
        if (got != want) {
            wrong++;
            System.out.println(call + " answered " + got + ", due is " + want);
        }
    }

    public static void main(String[] args) {
        newObject();
        begin();
        addArc();
        removeArc();
        setCost();
        setRoot();
        setLimit();
        addRandom();
        arcAndLimit();
        undo();
        undoOfEachChange();
        undoIsBounded();
        errorsAreNoChanges();
        System.out.println(wrong == 0 ? "promises 1 to 14 hold" : wrong + " wrong answers");
        if (wrong != 0) {
            System.exit(1);
        }
    }

    private static void newObject() {
        ArborescenceFinder x = new ArborescenceFinder();
        due("1 nodes()", x.nodes(), 5);
        due("1 root()", x.root(), 0);
        due("1 arcs()", x.arcs(), 0);
        for (int v = 0; v < 5; v++) {
            due("1 limit(" + v + ")", x.limit(v), 7);
        }
        due("1 isRecorded()", x.isRecorded(), 0);
        due("1 runs()", x.runs(), 0);
        due("1 reuses()", x.reuses(), 0);
        due("1 fault()", x.fault(), 0);
        due("1 wipe()", x.wipe(), 0);
        due("1 restore(0)", x.restore(0), NOT_POSSIBLE);
        due("1 restore(1)", x.restore(1), NOT_POSSIBLE);
        due("1 undo()", x.undo(), NOT_POSSIBLE);
        ArborescenceFinder other = new ArborescenceFinder();
        x.addArc(0, 1, 1);
        due("1 another object", other.arcs(), 0);
    }

    private static void begin() {
        ArborescenceFinder x = new ArborescenceFinder();
        due("2 too few", x.begin(1, 0), BAD_VALUE);
        due("2 too many", x.begin(9, 0), BAD_VALUE);
        due("2 value before node", x.begin(1, 1), BAD_VALUE);
        due("2 value before node", x.begin(MAX, MIN), BAD_VALUE);
        due("2 negative", x.begin(MIN, 0), BAD_VALUE);
        due("2 bad root", x.begin(8, 8), BAD_NODE);
        due("2 bad root", x.begin(2, -1), BAD_NODE);
        due("2 errors change nothing", x.nodes(), 5);
        due("2 begin(8, 7)", x.begin(8, 7), 5);
        due("2 nodes()", x.nodes(), 8);
        due("2 root()", x.root(), 7);
        x.addArc(7, 0, 3);
        x.setLimit(6, 2);
        x.setLimit(0, 0);
        due("2 begin(2, 1)", x.begin(2, 1), 8);
        due("2 no arcs", x.arcs(), 0);
        due("2 limit(0)", x.limit(0), 7);
        due("2 limit(6)", x.limit(6), BAD_NODE);
        due("2 begin(8, 0)", x.begin(8, 0), 2);
        due("2 limit(6) is new", x.limit(6), 7);
    }

    private static void addArc() {
        ArborescenceFinder x = new ArborescenceFinder();
        due("3 tail", x.addArc(5, 0, 1), BAD_NODE);
        due("3 tail", x.addArc(-1, 0, 1), BAD_NODE);
        due("3 head", x.addArc(0, 5, 1), BAD_NODE);
        due("3 head", x.addArc(0, MIN, 1), BAD_NODE);
        due("3 loop", x.addArc(3, 3, 1), BAD_NODE);
        due("3 node before value", x.addArc(3, 3, 100), BAD_NODE);
        due("3 cost", x.addArc(0, 1, -1), BAD_VALUE);
        due("3 cost", x.addArc(0, 1, 100), BAD_VALUE);
        due("3 errors add nothing", x.arcs(), 0);
        for (int i = 0; i < 32; i++) {
            due("3 number", x.addArc(4, 3, i % 2 == 0 ? 0 : 99), i);
        }
        due("3 full", x.addArc(0, 1, 1), FULL);
        due("3 node before full", x.addArc(0, 0, 1), BAD_NODE);
        due("3 value before full", x.addArc(0, 1, 100), BAD_VALUE);
        due("3 arcs()", x.arcs(), 32);
        due("3 tail", x.arc(31, 0), 4);
        due("3 head", x.arc(31, 1), 3);
        due("3 cost", x.arc(31, 2), 99);
        due("3 cost", x.arc(30, 2), 0);
    }

    private static void removeArc() {
        ArborescenceFinder x = new ArborescenceFinder();
        due("4 none", x.removeArc(0), BAD_ARC);
        x.addArc(0, 1, 10);
        x.addArc(1, 2, 20);
        x.addArc(2, 3, 30);
        due("4 beyond", x.removeArc(3), BAD_ARC);
        due("4 negative", x.removeArc(-1), BAD_ARC);
        due("4 wild", x.removeArc(MAX), BAD_ARC);
        due("4 middle", x.removeArc(1), 2);
        due("4 first stays", x.arc(0, 2), 10);
        due("4 last moves", x.arc(1, 2), 30);
        due("4 last moves", x.arc(1, 0), 2);
        due("4 last moves", x.arc(1, 1), 3);
        due("4 gone", x.arc(2, 2), BAD_ARC);
        due("4 next", x.addArc(3, 4, 40), 2);
        due("4 removeArc(2)", x.removeArc(2), 2);
        due("4 removeArc(0)", x.removeArc(0), 1);
        due("4 removeArc(0)", x.removeArc(0), 0);
    }

    private static void setCost() {
        ArborescenceFinder x = new ArborescenceFinder();
        due("5 arc before value", x.setCost(0, 100), BAD_ARC);
        x.addArc(0, 1, 10);
        due("5 negative arc", x.setCost(-1, 5), BAD_ARC);
        due("5 cost", x.setCost(0, -1), BAD_VALUE);
        due("5 cost", x.setCost(0, 100), BAD_VALUE);
        due("5 setCost(0, 99)", x.setCost(0, 99), 10);
        due("5 setCost(0, 0)", x.setCost(0, 0), 99);
        due("5 arc(0, 2)", x.arc(0, 2), 0);
    }

    private static void setRoot() {
        ArborescenceFinder x = new ArborescenceFinder();
        due("6 beyond", x.setRoot(5), BAD_NODE);
        due("6 negative", x.setRoot(-1), BAD_NODE);
        due("6 setRoot(4)", x.setRoot(4), 0);
        due("6 setRoot(1)", x.setRoot(1), 4);
        due("6 root()", x.root(), 1);
        x.begin(2, 0);
        x.addArc(0, 1, 5);
        x.cost();
        due("6 recorded", x.isRecorded(), 1);
        due("6 the same root", x.setRoot(0), 0);
        due("6 drops the record", x.isRecorded(), 0);
        due("6 no reuse", x.reuses(), 0);
    }

    private static void setLimit() {
        ArborescenceFinder x = new ArborescenceFinder();
        due("7 node before value", x.setLimit(5, 8), BAD_NODE);
        due("7 negative node", x.setLimit(-1, 1), BAD_NODE);
        due("7 limit", x.setLimit(0, 8), BAD_VALUE);
        due("7 limit", x.setLimit(0, -1), BAD_VALUE);
        due("7 setLimit(4, 0)", x.setLimit(4, 0), 7);
        due("7 setLimit(4, 7)", x.setLimit(4, 7), 0);
        due("7 setLimit(4, 3)", x.setLimit(4, 3), 7);
        due("7 limit(4)", x.limit(4), 3);
        due("7 limit(3)", x.limit(3), 7);
    }

    private static void addRandom() {
        ArborescenceFinder x = new ArborescenceFinder();
        due("8 none", x.addRandom(0, 1), BAD_VALUE);
        due("8 many", x.addRandom(9, 1), BAD_VALUE);
        due("8 state", x.addRandom(1, -1), BAD_VALUE);
        due("8 state", x.addRandom(1, MIN), BAD_VALUE);
        x.begin(8, 0);
        due("8 addRandom(1, 0)", x.addRandom(1, 0), 1);
        // The states from 0 are 12345, 1406932606 and 654583775.
        due("8 tail", x.arc(0, 0), 12345 / 65536 % 8);
        int head = 1406932606 / 65536 % 7;
        due("8 head", x.arc(0, 1), head >= 0 ? head + 1 : head);
        due("8 cost", x.arc(0, 2), 654583775 / 65536 % 100);
        due("8 the greatest state", x.addRandom(8, MAX), 9);
        long state = MAX;
        for (int a = 1; a < 9; a++) {
            long s1 = next(state);
            long s2 = next(s1);
            state = next(s2);
            long tail = s1 / 65536 % 8;
            long other = s2 / 65536 % 7;
            due("8 tail of " + a, x.arc(a, 0), tail);
            due("8 head of " + a, x.arc(a, 1), other < tail ? other : other + 1);
            due("8 cost of " + a, x.arc(a, 2), state / 65536 % 100);
        }
        x.addRandom(8, 1);
        x.addRandom(8, 1);
        due("8 25 arcs", x.arcs(), 25);
        due("8 one too many", x.addRandom(8, 1), FULL);
        due("8 value before full", x.addRandom(9, 1), BAD_VALUE);
        due("8 nothing added", x.arcs(), 25);
        due("8 just as many", x.addRandom(7, 1), 32);
        due("8 full", x.addRandom(1, 1), FULL);
        due("8 one change", x.undo(), 5);
        due("8 undone", x.arcs(), 25);
        x.begin(2, 0);
        x.addArc(0, 1, 0);
        x.cost();
        x.addRandom(1, 3);
        due("8 drops the record", x.isRecorded(), 0);
        due("8 no reuse", x.reuses(), 0);
    }

    private static long next(long state) {
        return java.math.BigInteger.valueOf(state).multiply(java.math.BigInteger.valueOf(1103515245))
                .add(java.math.BigInteger.valueOf(12345))
                .mod(java.math.BigInteger.valueOf(2147483648L)).longValueExact();
    }

    private static void arcAndLimit() {
        ArborescenceFinder x = new ArborescenceFinder();
        due("12 arc before value", x.arc(0, 3), BAD_ARC);
        x.addArc(4, 2, 17);
        due("12 tail", x.arc(0, 0), 4);
        due("12 head", x.arc(0, 1), 2);
        due("12 cost", x.arc(0, 2), 17);
        due("12 what", x.arc(0, 3), BAD_VALUE);
        due("12 what", x.arc(0, -1), BAD_VALUE);
        due("12 negative", x.arc(-1, 0), BAD_ARC);
        due("12 beyond", x.arc(1, 0), BAD_ARC);
        due("12 wild", x.arc(MIN, MIN), BAD_ARC);
        due("13 limit(4)", x.limit(4), 7);
        due("13 beyond", x.limit(5), BAD_NODE);
        due("13 negative", x.limit(-1), BAD_NODE);
        x.begin(3, 2);
        due("9 nodes()", x.nodes(), 3);
        due("10 root()", x.root(), 2);
        due("11 arcs()", x.arcs(), 0);
        due("13 after begin", x.limit(3), BAD_NODE);
    }

    private static void undo() {
        ArborescenceFinder x = new ArborescenceFinder();
        x.begin(3, 1);
        x.addArc(1, 0, 4);
        x.addArc(1, 2, 5);
        due("14 cost()", x.cost(), 9);
        // Sets the record aside: it comes back with the undoing.
        due("14 setRoot(0)", x.setRoot(0), 1);
        due("14 dropped", x.isRecorded(), 0);
        due("14 undo()", x.undo(), 3);
        due("14 the record is back", x.isRecorded(), 1);
        due("14 cost()", x.cost(), 9);
        due("14 runs stay", x.runs(), 1);
        due("14 setCost(0, 6)", x.setCost(0, 6), 4);
        due("14 dual", x.group(0, 1), 6);
        due("14 undo()", x.undo(), 3);
        due("14 the dual is back", x.group(0, 1), 4);
        due("14 reuses stay", x.reuses(), 1);
        due("14 undo()", x.undo(), 2);
        due("14 there was no record", x.isRecorded(), 0);
        due("14 arcs()", x.arcs(), 1);
        x.write('2');
        due("14 undo()", x.undo(), 1);
        due("14 undo()", x.undo(), 0);
        due("14 nodes()", x.nodes(), 5);
        due("14 root()", x.root(), 0);
        due("14 undo()", x.undo(), NOT_POSSIBLE);
        due("14 the text stays", x.wipe(), 1);
    }

    private static void undoOfEachChange() {
        ArborescenceFinder x = new ArborescenceFinder();
        x.addArc(0, 1, 11);
        x.addArc(1, 2, 12);
        x.setLimit(1, 3);
        for (int i = 0; i < 3; i++) {
            x.write("2/1".charAt(i));
        }
        x.begin(4, 3);
        x.undo();
        due("14 begin undone: nodes", x.nodes(), 5);
        due("14 begin undone: root", x.root(), 0);
        due("14 begin undone: arcs", x.arcs(), 2);
        due("14 begin undone: limit", x.limit(1), 3);
        due("14 load()", x.load(), 0);
        due("14 loaded", x.nodes(), 2);
        x.undo();
        due("14 load undone: nodes", x.nodes(), 5);
        due("14 load undone: arcs", x.arcs(), 2);
        due("14 load undone: limit", x.limit(1), 3);
        x.removeArc(0);
        x.undo();
        due("14 removeArc undone", x.arc(0, 2), 11);
        due("14 removeArc undone", x.arc(1, 2), 12);
        x.setCost(0, 50);
        x.undo();
        due("14 setCost undone", x.arc(0, 2), 11);
        x.setLimit(1, 5);
        x.undo();
        due("14 setLimit undone", x.limit(1), 3);
        x.setRoot(2);
        x.undo();
        due("14 setRoot undone", x.root(), 0);
        x.addArc(0, 4, 9);
        x.undo();
        due("14 addArc undone", x.arcs(), 2);
        x.addRandom(5, 9);
        due("14 addRandom undone", x.undo(), 3);
        due("14 addRandom undone", x.arcs(), 2);
        // A change that makes nothing different can be undone, too.
        x.setLimit(1, 3);
        due("14 the same again", x.undo(), 3);
    }

    private static void undoIsBounded() {
        ArborescenceFinder x = new ArborescenceFinder();
        for (int i = 0; i < 11; i++) {
            x.addArc(0, 1, i);
        }
        for (int left = 7; left >= 0; left--) {
            due("14 eight are kept", x.undo(), left);
        }
        due("14 the ninth is not", x.undo(), NOT_POSSIBLE);
        due("14 arcs()", x.arcs(), 3);
        due("14 addArc", x.addArc(0, 2, 7), 3);
        due("14 again", x.undo(), 0);
    }

    private static void errorsAreNoChanges() {
        ArborescenceFinder x = new ArborescenceFinder();
        x.begin(9, 0);
        x.begin(3, 3);
        x.addArc(0, 0, 1);
        x.addArc(0, 1, 100);
        x.removeArc(0);
        x.setCost(0, 1);
        x.setRoot(5);
        x.setLimit(0, 8);
        x.addRandom(9, 0);
        x.load();
        due("14 errors are not kept", x.undo(), NOT_POSSIBLE);
    }
}
