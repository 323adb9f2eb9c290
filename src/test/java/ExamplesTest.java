/** The five examples of the document. */
public final class ExamplesTest {
    private static int wrong;

    private static void due(String call, long got, long want) {
        if (got != want) {
            wrong++;
            System.out.println(call + " answered " + got + ", due is " + want);
        }
    }

    public static void main(String[] args) {
        contraction();
        errorsAndRecord();
        limitsAndPrices();
        text();
        randomUndoSave();
        System.out.println(wrong == 0 ? "the examples hold" : wrong + " wrong answers");
        if (wrong != 0) {
            System.exit(1);
        }
    }

    private static void contraction() {
        ArborescenceFinder x = new ArborescenceFinder();
        due("1 begin(4, 0)", x.begin(4, 0), 5);
        due("1 addArc(0, 1, 10)", x.addArc(0, 1, 10), 0);
        due("1 addArc(1, 2, 2)", x.addArc(1, 2, 2), 1);
        due("1 addArc(2, 1, 3)", x.addArc(2, 1, 3), 2);
        due("1 addArc(2, 3, 4)", x.addArc(2, 3, 4), 3);
        due("1 addArc(0, 2, 12)", x.addArc(0, 2, 12), 4);
        due("1 cost()", x.cost(), 16);
        due("1 enteringArc(1)", x.enteringArc(1), 0);
        due("1 groups()", x.groups(), 5);
        due("1 group(4, 0)", x.group(4, 0), 6);
        due("1 group(4, 1)", x.group(4, 1), 7);
        due("1 reducedCost(4)", x.reducedCost(4), 3);
        due("1 slack(4)", x.slack(4), 3);
        due("1 secondBest(0)", x.secondBest(0), 19);
        due("1 arborescences()", x.arborescences(), 3);
        due("1 runs()", x.runs(), 1);
    }

    private static void errorsAndRecord() {
        ArborescenceFinder x = new ArborescenceFinder();
        due("2 cost()", x.cost(), -106);
        due("2 begin(9, 0)", x.begin(9, 0), -103);
        due("2 begin(3, 3)", x.begin(3, 3), -101);
        due("2 begin(3, 0)", x.begin(3, 0), 5);
        due("2 addArc(0, 1, 5)", x.addArc(0, 1, 5), 0);
        due("2 addArc(1, 1, 5)", x.addArc(1, 1, 5), -101);
        due("2 addArc(0, 2, 100)", x.addArc(0, 2, 100), -103);
        due("2 addArc(1, 2, 7)", x.addArc(1, 2, 7), 1);
        due("2 isRecorded()", x.isRecorded(), 0);
        due("2 cost()", x.cost(), 12);
        due("2 setCost(1, 3)", x.setCost(1, 3), 7);
        due("2 isRecorded()", x.isRecorded(), 1);
        due("2 addArc(0, 2, 1)", x.addArc(0, 2, 1), 2);
        due("2 isRecorded()", x.isRecorded(), 0);
        due("2 reuses()", x.reuses(), 1);
        due("2 runs()", x.runs(), 2);
    }

    private static void limitsAndPrices() {
        ArborescenceFinder x = new ArborescenceFinder();
        due("3 begin(4, 0)", x.begin(4, 0), 5);
        due("3 addArc(0, 1, 1)", x.addArc(0, 1, 1), 0);
        due("3 addArc(0, 2, 1)", x.addArc(0, 2, 1), 1);
        due("3 addArc(0, 3, 1)", x.addArc(0, 3, 1), 2);
        due("3 addArc(1, 2, 4)", x.addArc(1, 2, 4), 3);
        due("3 addArc(2, 3, 6)", x.addArc(2, 3, 6), 4);
        due("3 setLimit(0, 1)", x.setLimit(0, 1), 7);
        due("3 limitedCost()", x.limitedCost(), 11);
        due("3 limitedArc(3)", x.limitedArc(3), 4);
        due("3 priceBound(1, 3)", x.priceBound(1, 3), 3);
        due("3 priceBound(9, 3)", x.priceBound(9, 3), 11);
        due("3 price(0, 9, 3)", x.price(0, 9, 3), 6);
        due("3 outDegree(0)", x.outDegree(0), 3);
        due("3 costWithout(0)", x.costWithout(0), -107);
        due("3 necessary(0)", x.necessary(0), 0);
        due("3 necessary(1)", x.necessary(1), 1);
    }

    private static void text() {
        ArborescenceFinder x = new ArborescenceFinder();
        int[] codes = {50, 47, 49, 44, 49, 62, 48, 58, 57};
        for (int i = 0; i < codes.length; i++) {
            due("4 write(" + codes[i] + ")", x.write(codes[i]), i + 1);
        }
        due("4 fault()", x.fault(), -107);
        due("4 load()", x.load(), 1);
        due("4 cost()", x.cost(), 9);
        due("4 write(58)", x.write(58), 10);
        due("4 fault()", x.fault(), 9);
        due("4 wipe()", x.wipe(), 10);
        due("4 fault()", x.fault(), 0);
    }

    private static void randomUndoSave() {
        ArborescenceFinder x = new ArborescenceFinder();
        due("5 begin(2, 0)", x.begin(2, 0), 5);
        due("5 addRandom(2, 7)", x.addRandom(2, 7), 2);
        due("5 arc(0, 0)", x.arc(0, 0), 0);
        due("5 arc(0, 1)", x.arc(0, 1), 1);
        due("5 arc(0, 2)", x.arc(0, 2), 68);
        due("5 removeArc(0)", x.removeArc(0), 1);
        due("5 arborescencesWith(0)", x.arborescencesWith(0), 1);
        due("5 setRoot(1)", x.setRoot(1), 0);
        due("5 cost()", x.cost(), -106);
        due("5 undo()", x.undo(), 3);
        due("5 cost()", x.cost(), 65);
        due("5 save(0)", x.save(0), 1);
        due("5 restore(0)", x.restore(0), 1);
        due("5 undo()", x.undo(), -105);
    }
}
