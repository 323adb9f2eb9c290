import java.util.Random;

/** Any arguments in any state: no call throws, and errors change nothing. */
public final class WildTest {
    private static final int[] WILD = {
        Integer.MIN_VALUE, Integer.MIN_VALUE + 1, -65536, -108, -107, -2, -1, 0, 1, 2, 3, 4, 5, 6, 7, 8, 9,
        10, 13, 14, 15, 16, 20, 21, 31, 32, 33, 44, 47, 48, 50, 58, 62, 63, 64, 98, 99, 100, 126, 127, 299,
        300, 301, 65535, 65536, Integer.MAX_VALUE - 1, Integer.MAX_VALUE};

    public static void main(String[] args) {
        int wrong = 0;
        for (int seed = 0; seed < 400; seed++) {
            Random random = new Random(seed);
            ArborescenceFinder x = new ArborescenceFinder();
            for (int i = 0; i < 600; i++) {
                // Fewer wild numbers in some runs, so that graphs come to be.
                int a = number(random, seed % 3);
                int b = number(random, seed % 3);
                int c = number(random, seed % 3);
                int method = random.nextInt(39);
                String before = picture(x);
                try {
                    long got = call(x, method, a, b, c);
                    boolean error = got <= -101 && got >= -106 && method != 24 && method != 25;
                    if (error && !picture(x).equals(before)) {
                        wrong++;
                        System.out.println("method " + method + " changes something with its error " + got);
                    }
                } catch (RuntimeException | StackOverflowError thrown) {
                    wrong++;
                    System.out.println("method " + method + " of " + a + ", " + b + ", " + c + " throws " + thrown);
                }
            }
        }
        System.out.println(wrong == 0 ? "no call throws" : wrong + " wrong calls");
        if (wrong != 0) {
            System.exit(1);
        }
    }

    private static int number(Random random, int tame) {
        return random.nextInt(3) < tame ? random.nextInt(9) : WILD[random.nextInt(WILD.length)];
    }

    /** What can be seen of the graph and the record without a run. */
    private static String picture(ArborescenceFinder x) {
        StringBuilder seen = new StringBuilder();
        seen.append(x.nodes()).append('/').append(x.root()).append(' ').append(x.isRecorded())
                .append(' ').append(x.reuses()).append(' ').append(x.fault());
        for (int a = 0; a < x.arcs(); a++) {
            seen.append(',').append(x.arc(a, 0)).append('>').append(x.arc(a, 1)).append(':').append(x.arc(a, 2));
        }
        for (int v = 0; v < x.nodes(); v++) {
            seen.append(' ').append(x.limit(v));
        }
        return seen.toString();
    }

    private static long call(ArborescenceFinder x, int method, int a, int b, int c) {
        switch (method) {
            case 0: return x.begin(a, b);
            case 1: return x.addArc(a, b, c);
            case 2: return x.removeArc(a);
            case 3: return x.setCost(a, b);
            case 4: return x.setRoot(a);
            case 5: return x.setLimit(a, b);
            case 6: return x.addRandom(a, b);
            case 7: return x.nodes();
            case 8: return x.root();
            case 9: return x.arcs();
            case 10: return x.arc(a, b);
            case 11: return x.limit(a);
            case 12: return x.undo();
            case 13: return x.write(a);
            case 14: return x.wipe();
            case 15: return x.fault();
            case 16: return x.load();
            case 17: return x.isRecorded();
            case 18: return x.runs();
            case 19: return x.reuses();
            case 20: return x.cost();
            case 21: return x.enteringArc(a);
            case 22: return x.outDegree(a);
            case 23: return x.groups();
            case 24: return x.group(a, b);
            case 25: return x.reducedCost(a);
            case 26: return x.costWithout(a);
            case 27: return x.costWith(a);
            case 28: return x.slack(a);
            case 29: return x.secondBest(a);
            case 30: return x.necessary(a);
            case 31: return x.limitedCost();
            case 32: return x.limitedArc(a);
            case 33: return x.priceBound(a, b);
            case 34: return x.price(a, b, c);
            case 35: return x.arborescences();
            case 36: return x.arborescencesWith(a);
            case 37: return x.save(a);
            default: return x.restore(a);
        }
    }
}
