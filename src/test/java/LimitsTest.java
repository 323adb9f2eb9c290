/** Promises 33 to 36: limited out-degrees and prices. */
public final class LimitsTest {
    private static final int BAD_NODE = -101;
    private static final int BAD_VALUE = -103;
    private static final int NO_ARBORESCENCE = -106;
    private static final int NONE = -107;

    private static int wrong;

    private static void due(String call, long got, long want) {
        if (got != want) {
            wrong++;
            System.out.println(call + " answered " + got + ", due is " + want);
        }
    }

    public static void main(String[] args) {
        limits();
        lexicographic();
        notLimited();
        afterChanges();
        errors();
        prices();
        pricesRise();
        pricesFall();
        noArborescence();
        System.out.println(wrong == 0 ? "promises 33 to 36 hold" : wrong + " wrong answers");
        if (wrong != 0) {
            System.exit(1);
        }
    }

    private static ArborescenceFinder star() {
        ArborescenceFinder x = new ArborescenceFinder();
        x.begin(4, 0);
        x.addArc(0, 1, 1);
        x.addArc(0, 2, 1);
        x.addArc(0, 3, 1);
        x.addArc(1, 2, 4);
        x.addArc(2, 3, 6);
        return x;
    }

    private static void limited(String what, ArborescenceFinder x, int cost, int... arcs) {
        due(what + ": limitedCost()", x.limitedCost(), cost);
        for (int v = 0; v < arcs.length; v++) {
            due(what + ": limitedArc(" + v + ")", x.limitedArc(v), arcs[v]);
        }
    }

    private static void limits() {
        ArborescenceFinder x = star();
        limited("33 no limit", x, 3, NONE, 0, 1, 2);
        x.setLimit(0, 3);
        limited("33 limit 3", x, 3, NONE, 0, 1, 2);
        x.setLimit(0, 2);
        limited("33 limit 2", x, 6, NONE, 0, 3, 2);
        x.setLimit(1, 0);
        limited("33 limits 2 and 0", x, 8, NONE, 0, 1, 4);
        x.setLimit(1, 1);
        x.setLimit(0, 1);
        limited("33 limit 1", x, 11, NONE, 0, 3, 4);
        x.setLimit(2, 0);
        limited("33 not with 2 as a leaf", x, NO_ARBORESCENCE,
                NO_ARBORESCENCE, NO_ARBORESCENCE, NO_ARBORESCENCE, NO_ARBORESCENCE);
        due("20 no run", x.runs(), 0);
    }

    private static void lexicographic() {
        ArborescenceFinder x = new ArborescenceFinder();
        x.begin(3, 2);
        x.addArc(1, 0, 2);
        x.addArc(2, 1, 2);
        x.addArc(2, 0, 2);
        x.addArc(0, 1, 2);
        x.addArc(2, 0, 2);
        limited("34 all equal", x, 4, 0, 1, NONE);
        x.setLimit(1, 0);
        limited("34 1 is a leaf", x, 4, 2, 1, NONE);
        x.setLimit(2, 1);
        limited("34 and 2 has one", x, 4, 2, 3, NONE);
        x.setCost(4, 1);
        limited("34 cheaper before smaller", x, 3, 4, 3, NONE);
    }

    private static void notLimited() {
        ArborescenceFinder x = star();
        x.setLimit(0, 0);
        due("33 the root is a leaf", x.limitedCost(), NO_ARBORESCENCE);
        due("34 the root is a leaf", x.limitedArc(0), NO_ARBORESCENCE);
        due("22 there is one without limits", x.cost(), 3);
    }

    /** Whatever changes the graph or the limits changes the answer. */
    private static void afterChanges() {
        ArborescenceFinder x = star();
        due("33", x.limitedCost(), 3);
        x.save(0);
        x.setCost(0, 9);
        due("33 setCost", x.limitedCost(), 11);
        x.undo();
        due("33 undo", x.limitedCost(), 3);
        x.addArc(0, 3, 0);
        due("33 addArc", x.limitedCost(), 2);
        x.removeArc(5);
        due("33 removeArc", x.limitedCost(), 3);
        x.setRoot(1);
        due("33 setRoot", x.limitedCost(), NO_ARBORESCENCE);
        x.restore(0);
        due("33 restore", x.limitedCost(), 3);
        x.begin(2, 0);
        due("33 begin", x.limitedCost(), NO_ARBORESCENCE);
        x.addRandom(2, 7);
        due("33 addRandom", x.limitedCost(), x.cost());
        for (char sign : "2/1,1>0:9".toCharArray()) {
            x.write(sign);
        }
        x.load();
        due("33 load", x.limitedCost(), 9);
    }

    private static void errors() {
        ArborescenceFinder x = new ArborescenceFinder();
        due("34 node before no arborescence", x.limitedArc(5), BAD_NODE);
        due("34 negative", x.limitedArc(-1), BAD_NODE);
        due("36 node before value", x.price(5, 0, 0), BAD_NODE);
        due("36 negative", x.price(-1, 1, 1), BAD_NODE);
        int[][] bad = {{0, 1}, {21, 1}, {1, 0}, {1, 21}, {-1, -1}, {Integer.MAX_VALUE, 1}, {1, Integer.MIN_VALUE}};
        for (int[] pair : bad) {
            due("35 rounds, step", x.priceBound(pair[0], pair[1]), BAD_VALUE);
            due("36 rounds, step", x.price(0, pair[0], pair[1]), BAD_VALUE);
        }
    }

    /** Prices of the root are 0, 3, 6, 6: its arcs cost 3, then 12 in all, then the bound is tight. */
    private static void prices() {
        ArborescenceFinder x = star();
        x.setLimit(0, 1);
        int[] bound = {3, 9, 11, 11};
        int[] price = {3, 6, 6, 6};
        for (int r = 1; r <= 4; r++) {
            due("35 priceBound(" + r + ", 3)", x.priceBound(r, 3), bound[r - 1]);
            due("36 price(0, " + r + ", 3)", x.price(0, r, 3), price[r - 1]);
            due("36 price(1, " + r + ", 3)", x.price(1, r, 3), 0);
        }
        due("35 priceBound(20, 20)", x.priceBound(20, 20), 11);
        due("20 no run", x.runs(), 0);
        x.cost();
        x.priceBound(20, 20);
        due("22 the record is the same", x.cost(), 3);
        due("26 the record is the same", x.group(1, 1), 1);
    }

    /** Node 1 must be a leaf and the root may have one arc: in turn each is the tail of too many. */
    private static void pricesRise() {
        ArborescenceFinder x = new ArborescenceFinder();
        x.begin(3, 0);
        x.addArc(0, 1, 1);
        x.addArc(0, 2, 1);
        x.addArc(1, 2, 3);
        x.setLimit(1, 0);
        x.setLimit(0, 1);
        // Prices of 0 and 1: 0 0, then 5 0, then 5 5, then 10 5, then 10 10.
        due("36 price(0, 1, 5)", x.price(0, 1, 5), 5);
        due("36 price(1, 1, 5)", x.price(1, 1, 5), 0);
        due("36 price(0, 2, 5)", x.price(0, 2, 5), 5);
        due("36 price(1, 2, 5)", x.price(1, 2, 5), 5);
        due("36 price(0, 3, 5)", x.price(0, 3, 5), 10);
        due("36 price(1, 3, 5)", x.price(1, 3, 5), 5);
        due("36 price(1, 4, 5)", x.price(1, 4, 5), 10);
        due("35 priceBound(1, 5)", x.priceBound(1, 5), 2);
        due("35 priceBound(2, 5)", x.priceBound(2, 5), 4);
        due("35 priceBound(3, 5)", x.priceBound(3, 5), 7);
    }

    /** Node 1 is the tail of two arcs, with a price of none, and so on. */
    private static void pricesFall() {
        ArborescenceFinder x = new ArborescenceFinder();
        x.begin(4, 0);
        x.addArc(0, 1, 1);
        x.addArc(1, 2, 1);
        x.addArc(1, 3, 1);
        x.addArc(0, 2, 5);
        x.addArc(0, 3, 5);
        x.setLimit(1, 1);
        due("36 up", x.price(1, 1, 10), 10);
        due("36 down", x.price(1, 2, 10), 0);
        due("36 up again", x.price(1, 3, 10), 10);
        due("36 never below 0", x.price(2, 20, 20), 0);
        due("36 never below 0", x.price(0, 20, 20), 0);
        due("35 the greatest, not the last", x.priceBound(2, 10), 3);
        due("35 by a smaller step", x.priceBound(5, 1), 7);
    }

    private static void noArborescence() {
        ArborescenceFinder x = new ArborescenceFinder();
        due("33", x.limitedCost(), NO_ARBORESCENCE);
        due("34", x.limitedArc(4), NO_ARBORESCENCE);
        due("35", x.priceBound(20, 20), NO_ARBORESCENCE);
        due("36", x.price(4, 1, 1), NO_ARBORESCENCE);
        due("20 no run", x.runs(), 0);
        x.begin(2, 0);
        x.addArc(0, 1, 50);
        x.setLimit(0, 0);
        // No limited one, but one: the bounds are defined, and grow.
        due("33", x.limitedCost(), NO_ARBORESCENCE);
        due("35", x.priceBound(3, 20), 90);
        due("36", x.price(0, 3, 20), 60);
        due("36", x.price(1, 3, 20), 0);
    }
}
