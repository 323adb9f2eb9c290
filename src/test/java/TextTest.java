/** Promises 15 to 18: the text. */
public final class TextTest {
    private static final int BAD_VALUE = -103;
    private static final int FULL = -104;
    private static final int NOT_POSSIBLE = -105;
    private static final int NONE = -107;

    private static int wrong;

    private static void due(String call, long got, long want) {
        if (got != want) {
            wrong++;
            System.out.println(call + " answered " + got + ", due is " + want);
        }
    }

    public static void main(String[] args) {
        write();
        wipe();
        faults();
        manyArcs();
        load();
        loadIsAChange();
        loadWithFault();
        System.out.println(wrong == 0 ? "promises 15 to 18 hold" : wrong + " wrong answers");
        if (wrong != 0) {
            System.exit(1);
        }
    }

    private static void put(ArborescenceFinder x, String text) {
        x.wipe();
        for (int i = 0; i < text.length(); i++) {
            x.write(text.charAt(i));
        }
    }

    private static void write() {
        ArborescenceFinder x = new ArborescenceFinder();
        due("15 below", x.write(31), BAD_VALUE);
        due("15 above", x.write(127), BAD_VALUE);
        due("15 wild", x.write(Integer.MIN_VALUE), BAD_VALUE);
        due("15 a code that fits a char only when cut", x.write(65536 + 50), BAD_VALUE);
        due("15 lowest", x.write(32), 1);
        due("15 highest", x.write(126), 2);
        for (int i = 3; i <= 300; i++) {
            due("15 length", x.write('0'), i);
        }
        due("15 full", x.write('0'), FULL);
        due("15 value before full", x.write(127), BAD_VALUE);
        due("16 wipe()", x.wipe(), 300);
        due("15 again", x.write('0'), 1);
        due("15 no change", x.undo(), NOT_POSSIBLE);
    }

    private static void wipe() {
        ArborescenceFinder x = new ArborescenceFinder();
        due("16 empty", x.wipe(), 0);
        put(x, "3/0");
        due("16 three", x.wipe(), 3);
        due("16 empty again", x.wipe(), 0);
        due("16 nothing to read", x.load(), NOT_POSSIBLE);
        due("16 no change", x.undo(), NOT_POSSIBLE);
    }

    private static void fault(String text, int want) {
        ArborescenceFinder x = new ArborescenceFinder();
        put(x, text);
        due("17 fault of \"" + text + "\"", x.fault(), want);
        due("17 text stays", x.wipe(), text.length());
        put(x, text);
        due("18 load of \"" + text + "\"", x.load() == NOT_POSSIBLE ? 1 : 0, want == NONE ? 0 : 1);
    }

    private static void faults() {
        fault("", 0);
        fault("1/0", 0);
        fault("9/0", 0);
        fault("0", 0);
        fault(" 2/0", 0);
        fault("/", 0);
        fault("2", 1);
        fault("2:", 1);
        fault("22/0", 1);
        fault("2/", 2);
        fault("2/2", 2);
        fault("8/8", 2);
        fault("2/a", 2);
        fault("2//", 2);
        fault("8/7", NONE);
        fault("2/0", NONE);
        fault("3/0 ", 3);
        fault("3/00", 3);
        fault("3/0,", 4);
        fault("3/0,,", 4);
        fault("3/0,3>0:1", 4);
        fault("3/0,0", 5);
        fault("3/0,0:", 5);
        fault("3/0,0>", 6);
        fault("3/0,0>0:1", 6);
        fault("3/0,2>2", 6);
        fault("3/0,0>3:1", 6);
        fault("3/0,0>-", 6);
        fault("3/0,0>1", 7);
        fault("3/0,0>1>", 7);
        fault("3/0,0>11:1", 7);
        fault("3/0,0>1:", 8);
        fault("3/0,0>1:,", 8);
        fault("3/0,0>1:x", 8);
        fault("3/0,0>1:-1", 8);
        fault("3/0,0>1:1", NONE);
        fault("3/0,0>1:12", NONE);
        fault("3/0,0>1:00", NONE);
        fault("3/0,0>1:123", 10);
        fault("3/0,0>1:1/", 9);
        fault("3/0,0>1:1 ", 9);
        fault("3/0,0>1:12,", 11);
        fault("3/0,0>1:1,1>0:0", NONE);
        fault("3/0,0>1:1,1>0:0;", 15);
        fault("4/0,0>1:7,1>2:12", NONE);
    }

    private static void manyArcs() {
        String full = "8/7" + ",0>7:5".repeat(32);
        fault(full, NONE);
        fault(full + "5", NONE);
        fault(full + "55", 196);
        fault(full + ",", 195);
        fault(full + ",0>7:5", 195);
        fault(full + "x", 195);
        fault("8/7" + ",0>7:55".repeat(32), NONE);
        fault("8/7" + ",0>7:55".repeat(33), 227);
        fault("8/7" + ",0>7:55".repeat(31) + ",0>7", 3 + 31 * 7 + 4);
    }

    private static void load() {
        ArborescenceFinder x = new ArborescenceFinder();
        x.setLimit(1, 0);
        put(x, "4/2,2>0:7,0>1:12,1>3:05,3>0:99");
        due("18 load()", x.load(), 4);
        due("18 nodes()", x.nodes(), 4);
        due("18 root()", x.root(), 2);
        due("18 arcs()", x.arcs(), 4);
        int[][] want = {{2, 0, 7}, {0, 1, 12}, {1, 3, 5}, {3, 0, 99}};
        for (int a = 0; a < 4; a++) {
            for (int what = 0; what < 3; what++) {
                due("18 arc(" + a + ", " + what + ")", x.arc(a, what), want[a][what]);
            }
        }
        due("18 limit(1)", x.limit(1), 7);
        due("18 cost()", x.cost(), 24);
        due("18 the text stays", x.wipe(), 30);
        due("18 the graph stays", x.arcs(), 4);
        put(x, "2/0");
        due("18 no arcs", x.load(), 0);
        due("18 no arcs", x.arcs(), 0);
    }

    private static void loadIsAChange() {
        ArborescenceFinder x = new ArborescenceFinder();
        put(x, "2/1,1>0:9");
        due("18 load()", x.load(), 1);
        due("18 cost()", x.cost(), 9);
        due("18 the same again", x.load(), 1);
        due("18 drops the record", x.isRecorded(), 0);
        due("18 no reuse", x.reuses(), 0);
        due("18 undo()", x.undo(), 1);
        due("18 the record is back", x.isRecorded(), 1);
        due("18 undo()", x.undo(), 0);
        due("18 the first graph", x.nodes(), 5);
    }

    private static void loadWithFault() {
        ArborescenceFinder x = new ArborescenceFinder();
        x.begin(3, 2);
        x.addArc(2, 0, 1);
        x.addArc(2, 1, 1);
        x.setLimit(0, 4);
        x.cost();
        put(x, "8/7,7>0:1,7>7:1");
        due("18 a fault", x.load(), NOT_POSSIBLE);
        due("18 nodes stay", x.nodes(), 3);
        due("18 root stays", x.root(), 2);
        due("18 arcs stay", x.arcs(), 2);
        due("18 limits stay", x.limit(0), 4);
        due("18 record stays", x.isRecorded(), 1);
        due("18 reuses stay", x.reuses(), 0);
        due("18 fault()", x.fault(), 12);
        due("18 nothing is kept", x.undo(), 3);
    }
}
