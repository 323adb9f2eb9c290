import java.util.ArrayDeque;
import java.util.ArrayList;
import java.util.Arrays;
import java.util.Deque;
import java.util.HashMap;
import java.util.HashSet;
import java.util.List;
import java.util.Map;
import java.util.Random;
import java.util.Set;
import java.util.TreeSet;

/**
 * Plays runs of calls on a finder and on a plain model of the document, and
 * compares each answer. The model tries all arborescences instead of
 * contracting, and copies everything instead of keeping it up to date.
 */
public final class ModelTest {
    private static final int BAD_NODE = -101;
    private static final int BAD_ARC = -102;
    private static final int BAD_VALUE = -103;
    private static final int FULL = -104;
    private static final int NOT_POSSIBLE = -105;
    private static final int NO_ARBORESCENCE = -106;
    private static final int NONE = -107;

    private static final String[] NAMES = {
        "begin", "addArc", "removeArc", "setCost", "setRoot", "setLimit", "addRandom",
        "nodes", "root", "arcs", "arc", "limit", "undo", "write", "wipe", "fault", "load",
        "isRecorded", "runs", "reuses", "cost", "enteringArc", "outDegree", "groups", "group",
        "reducedCost", "costWithout", "costWith", "slack", "secondBest", "necessary",
        "limitedCost", "limitedArc", "priceBound", "price", "arborescences",
        "arborescencesWith", "save", "restore"};

    public static void main(String[] args) {
        int wrong = 0;
        int calls = 0;
        for (int seed = 0; seed < 600 && wrong < 20; seed++) {
            Play play = new Play(seed);
            wrong += play.run();
            calls += play.log.size();
        }
        for (int seed = 0; seed < 600 && wrong < 20; seed++) {
            Play play = new Play(seed);
            wrong += play.runPrices();
            calls += play.log.size();
        }
        System.out.println(calls + " calls compared, " + wrong + " runs with a wrong answer");
        if (wrong != 0) {
            System.exit(1);
        }
    }

    /** One run of calls. */
    private static final class Play {
        final Random random;
        final int seed;
        final int maxNodes;
        final int maxCost;
        final ArborescenceFinder finder = new ArborescenceFinder();
        final Model model = new Model();
        final List<String> log = new ArrayList<>();

        Play(int seed) {
            this.seed = seed;
            this.random = new Random(seed);
            this.maxNodes = 2 + random.nextInt(7);
            // Few different costs make many ties.
            this.maxCost = new int[] {2, 5, 20, 99}[random.nextInt(4)];
        }

        int run() {
            if (!call("begin", maxNodes, random.nextInt(maxNodes), 0)) {
                return 1;
            }
            int arcs = random.nextInt(33);
            for (int i = 0; i < arcs; i++) {
                if (!call("addArc", node(), node(), cost())) {
                    return 1;
                }
            }
            while (log.size() < 400) {
                if (!step()) {
                    return 1;
                }
            }
            return 0;
        }

        /** Narrow limits and many arcs, as a price seldom falls, and still more seldom not to 0. */
        int runPrices() {
            boolean same = call("begin", maxNodes, random.nextInt(maxNodes), 0);
            for (int i = 0; i < 32 && same; i++) {
                same = call("addArc", node(), node(), cost());
            }
            for (int v = 0; v < maxNodes && same; v++) {
                same = call("setLimit", v, random.nextInt(3), 0);
            }
            for (int i = 0; i < 40 && same; i++) {
                int step = 1 + random.nextInt(20);
                int rounds = 1 + random.nextInt(20);
                same = call("priceBound", rounds, step, 0) && call("price", node(), rounds, step);
            }
            return same ? 0 : 1;
        }

        boolean step() {
            int kind = random.nextInt(100);
            if (kind < 4) {
                return text();
            }
            if (kind < 5) {
                return call("begin", 1 + random.nextInt(9), random.nextInt(9) - 1, 0);
            }
            if (kind < 7) {
                return call("addRandom", random.nextInt(10), random.nextInt(5) == 0
                        ? -1 : random.nextInt() >>> 1, 0);
            }
            if (kind < 17) {
                return call("addArc", node(), node(), cost());
            }
            if (kind < 22) {
                return call("removeArc", arc(), 0, 0);
            }
            if (kind < 34) {
                return call("setCost", arc(), cost(), 0);
            }
            if (kind < 35) {
                return call("setRoot", node(), 0, 0);
            }
            if (kind < 39) {
                return call("setLimit", node(), random.nextInt(12) == 0 ? 8 : random.nextInt(4), 0);
            }
            if (kind < 42) {
                return call("undo", 0, 0, 0);
            }
            if (kind < 44) {
                return call(random.nextBoolean() ? "save" : "restore", random.nextInt(4) - 1, 0, 0);
            }
            return query() && call("isRecorded", 0, 0, 0);
        }

        boolean query() {
            String name = NAMES[17 + random.nextInt(20)];
            switch (name) {
                case "enteringArc": case "outDegree": case "limitedArc":
                    return call(name, node(), 0, 0);
                case "group":
                    return call(name, random.nextInt(17) - 1, random.nextInt(5) - 1, 0);
                case "reducedCost": case "costWithout": case "costWith": case "slack":
                case "arborescencesWith":
                    return call(name, arc(), 0, 0);
                case "secondBest":
                    return call(name, random.nextInt(4) - 1, 0, 0);
                case "necessary":
                    return call(name, random.nextInt(9) - 1, 0, 0);
                case "priceBound":
                    return call(name, random.nextInt(22), random.nextInt(22), 0);
                case "price":
                    return call(name, node(), random.nextInt(22), random.nextInt(22));
                default:
                    return call(name, 0, 0, 0) && look();
            }
        }

        boolean look() {
            String name = NAMES[7 + random.nextInt(5)];
            return call(name, name.equals("arc") ? arc() : node(), random.nextInt(5) - 1, 0);
        }

        boolean text() {
            int n = 2 + random.nextInt(7);
            StringBuilder built = new StringBuilder().append(n).append('/').append(random.nextInt(n));
            int arcs = random.nextInt(8);
            for (int i = 0; i < arcs; i++) {
                int tail = random.nextInt(n);
                built.append(',').append(tail).append('>').append((tail + 1 + random.nextInt(n - 1)) % n)
                        .append(':').append(random.nextInt(100));
            }
            if (random.nextInt(3) == 0) {
                String signs = "0123456789,>:/ ~";
                built.setCharAt(random.nextInt(built.length()), signs.charAt(random.nextInt(signs.length())));
            }
            if (random.nextInt(4) == 0) {
                built.setLength(random.nextInt(built.length()));
            }
            if (!call("wipe", 0, 0, 0)) {
                return false;
            }
            for (int i = 0; i < built.length(); i++) {
                if (!call("write", built.charAt(i), 0, 0)) {
                    return false;
                }
            }
            return call("fault", 0, 0, 0) && call("load", 0, 0, 0);
        }

        int node() {
            return random.nextInt(25) == 0 ? random.nextInt(11) - 1 : random.nextInt(model.graph.n);
        }

        int arc() {
            int m = model.graph.arcs.size();
            return m == 0 || random.nextInt(25) == 0 ? random.nextInt(35) - 1 : random.nextInt(m);
        }

        int cost() {
            return random.nextInt(25) == 0 ? random.nextInt(102) - 1 : random.nextInt(maxCost + 1);
        }

        boolean call(String name, int a, int b, int c) {
            long due = model.answer(name, a, b, c);
            long got = answer(finder, name, a, b, c);
            String told = name + "(" + a + ", " + b + ", " + c + ")";
            log.add(told + " = " + due);
            if (got == due) {
                return true;
            }
            System.out.println("seed " + seed + ", call " + log.size() + ": " + told
                    + " answered " + got + ", due is " + due);
            return false;
        }
    }

    private static long answer(ArborescenceFinder x, String name, int a, int b, int c) {
        switch (name) {
            case "begin": return x.begin(a, b);
            case "addArc": return x.addArc(a, b, c);
            case "removeArc": return x.removeArc(a);
            case "setCost": return x.setCost(a, b);
            case "setRoot": return x.setRoot(a);
            case "setLimit": return x.setLimit(a, b);
            case "addRandom": return x.addRandom(a, b);
            case "nodes": return x.nodes();
            case "root": return x.root();
            case "arcs": return x.arcs();
            case "arc": return x.arc(a, b);
            case "limit": return x.limit(a);
            case "undo": return x.undo();
            case "write": return x.write(a);
            case "wipe": return x.wipe();
            case "fault": return x.fault();
            case "load": return x.load();
            case "isRecorded": return x.isRecorded();
            case "runs": return x.runs();
            case "reuses": return x.reuses();
            case "cost": return x.cost();
            case "enteringArc": return x.enteringArc(a);
            case "outDegree": return x.outDegree(a);
            case "groups": return x.groups();
            case "group": return x.group(a, b);
            case "reducedCost": return x.reducedCost(a);
            case "costWithout": return x.costWithout(a);
            case "costWith": return x.costWith(a);
            case "slack": return x.slack(a);
            case "secondBest": return x.secondBest(a);
            case "necessary": return x.necessary(a);
            case "limitedCost": return x.limitedCost();
            case "limitedArc": return x.limitedArc(a);
            case "priceBound": return x.priceBound(a, b);
            case "price": return x.price(a, b, c);
            case "arborescences": return x.arborescences();
            case "arborescencesWith": return x.arborescencesWith(a);
            case "save": return x.save(a);
            case "restore": return x.restore(a);
            default: throw new IllegalArgumentException(name);
        }
    }

    /** An arc that is never changed; its key stays when its number changes. */
    private record Arc(int key, int tail, int head, int cost) {
    }

    /** A graph that is never changed once it is in use. */
    private static final class ModelGraph {
        int n = 5;
        int root = 0;
        List<Arc> arcs = new ArrayList<>();
        int[] limits = {7, 7, 7, 7, 7, 7, 7, 7};
        private List<List<Integer>> all;

        ModelGraph copy() {
            ModelGraph g = new ModelGraph();
            g.n = n;
            g.root = root;
            g.arcs = new ArrayList<>(arcs);
            g.limits = limits.clone();
            return g;
        }

        /** All arborescences, each as the list of its arcs by ascending heads. */
        List<List<Integer>> all() {
            if (all == null) {
                all = new ArrayList<>();
                extend(0, new ArrayList<>());
            }
            return all;
        }

        private void extend(int head, List<Integer> list) {
            if (head == n) {
                if (reached(list).size() == n) {
                    all.add(new ArrayList<>(list));
                }
                return;
            }
            if (head == root) {
                extend(head + 1, list);
                return;
            }
            for (int a = 0; a < arcs.size(); a++) {
                if (arcs.get(a).head() == head) {
                    list.add(a);
                    extend(head + 1, list);
                    list.remove(list.size() - 1);
                }
            }
        }

        private Set<Integer> reached(List<Integer> list) {
            Set<Integer> nodes = new HashSet<>(Set.of(root));
            for (int i = 0; i < n; i++) {
                for (int a : list) {
                    if (nodes.contains(arcs.get(a).tail())) {
                        nodes.add(arcs.get(a).head());
                    }
                }
            }
            return nodes;
        }

        int costOf(List<Integer> list) {
            int sum = 0;
            for (int a : list) {
                sum += arcs.get(a).cost();
            }
            return sum;
        }

        int degree(List<Integer> list, int node) {
            int many = 0;
            for (int a : list) {
                if (arcs.get(a).tail() == node) {
                    many++;
                }
            }
            return many;
        }

        boolean isLimited(List<Integer> list) {
            for (int v = 0; v < n; v++) {
                if (degree(list, v) > limits[v]) {
                    return false;
                }
            }
            return true;
        }
    }

    /** The groups and the arborescence of a contraction, the latter as keys of arcs. */
    private static final class ModelRecord {
        List<Set<Integer>> sets = new ArrayList<>();
        List<Integer> duals = new ArrayList<>();
        List<Integer> wholes = new ArrayList<>();
        Map<Integer, Integer> tree = new HashMap<>();

        ModelRecord copy() {
            ModelRecord r = new ModelRecord();
            r.sets = new ArrayList<>(sets);
            r.duals = new ArrayList<>(duals);
            r.wholes = new ArrayList<>(wholes);
            r.tree = new HashMap<>(tree);
            return r;
        }

        int reduced(Arc arc, int cost) {
            int rest = cost;
            for (int g = 0; g < sets.size(); g++) {
                if (enters(arc, sets.get(g))) {
                    rest -= duals.get(g);
                }
            }
            return rest;
        }

        boolean has(Arc arc) {
            return tree.containsValue(arc.key());
        }

        List<Integer> list(ModelGraph g) {
            List<Integer> list = new ArrayList<>();
            for (int v = 0; v < g.n; v++) {
                for (int a = 0; a < g.arcs.size(); a++) {
                    if (tree.containsKey(v) && tree.get(v) == g.arcs.get(a).key()) {
                        list.add(a);
                    }
                }
            }
            return list;
        }
    }

    private static boolean enters(Arc arc, Set<Integer> set) {
        return set.contains(arc.head()) && !set.contains(arc.tail());
    }

    /** The contraction, word for word; null if there is no arborescence. */
    private static ModelRecord contract(ModelGraph g, int[] costs) {
        ModelRecord r = new ModelRecord();
        Map<Integer, Integer> selected = new HashMap<>();
        for (int v = 0; v < g.n; v++) {
            r.sets.add(new TreeSet<>(Set.of(v)));
            r.duals.add(0);
            r.wholes.add(NONE);
        }
        while (true) {
            int taken = -1;
            for (int i = 0; i < r.sets.size(); i++) {
                if (r.wholes.get(i) == NONE && i != g.root && !selected.containsKey(i)
                        && (taken < 0 || lowest(r.sets.get(i)) < lowest(r.sets.get(taken)))) {
                    taken = i;
                }
            }
            if (taken < 0) {
                break;
            }
            int least = -1;
            for (int a = 0; a < g.arcs.size(); a++) {
                if (enters(g.arcs.get(a), r.sets.get(taken)) && (least < 0
                        || r.reduced(g.arcs.get(a), costs[a]) < r.reduced(g.arcs.get(least), costs[least]))) {
                    least = a;
                }
            }
            if (least < 0) {
                return null;
            }
            selected.put(taken, least);
            r.duals.set(taken, r.reduced(g.arcs.get(least), costs[least]));
            contractCycle(g, r, selected, taken);
        }
        for (int i = 0; i < r.sets.size(); i++) {
            if (r.wholes.get(i) == NONE && i != g.root) {
                enter(g, r, selected, i, selected.get(i));
            }
        }
        return r;
    }

    private static int lowest(Set<Integer> set) {
        return ((TreeSet<Integer>) set).first();
    }

    private static void contractCycle(ModelGraph g, ModelRecord r, Map<Integer, Integer> selected, int start) {
        List<Integer> path = new ArrayList<>();
        int at = start;
        while (selected.containsKey(at) && !path.contains(at)) {
            path.add(at);
            int tail = g.arcs.get(selected.get(at)).tail();
            for (int i = 0; i < r.sets.size(); i++) {
                if (r.wholes.get(i) == NONE && r.sets.get(i).contains(tail)) {
                    at = i;
                }
            }
        }
        if (at != start || path.isEmpty()) {
            return;
        }
        Set<Integer> union = new TreeSet<>();
        int number = r.sets.size();
        for (int part : path) {
            union.addAll(r.sets.get(part));
            r.wholes.set(part, number);
        }
        r.sets.add(union);
        r.duals.add(0);
        r.wholes.add(NONE);
    }

    private static void enter(ModelGraph g, ModelRecord r, Map<Integer, Integer> selected, int group, int arc) {
        if (group < g.n) {
            r.tree.put(group, g.arcs.get(arc).key());
            return;
        }
        for (int i = 0; i < r.sets.size(); i++) {
            if (r.wholes.get(i) == group) {
                boolean hit = r.sets.get(i).contains(g.arcs.get(arc).head());
                enter(g, r, selected, i, hit ? arc : selected.get(i));
            }
        }
    }

    private record Kept(ModelGraph graph, ModelRecord record) {
    }

    private static final class Model {
        ModelGraph graph = new ModelGraph();
        ModelRecord record;
        int runs;
        int reuses;
        int nextKey;
        final Deque<Kept> kept = new ArrayDeque<>();
        final Kept[] slots = new Kept[2];
        String text = "";

        long answer(String name, int a, int b, int c) {
            switch (name) {
                case "begin": case "addArc": case "removeArc": case "setCost": case "setRoot":
                case "setLimit": case "addRandom": case "load":
                    return change(name, a, b, c);
                case "nodes": return graph.n;
                case "root": return graph.root;
                case "arcs": return graph.arcs.size();
                case "arc":
                    if (!isArc(a)) {
                        return BAD_ARC;
                    }
                    Arc arc = graph.arcs.get(a);
                    return b == 0 ? arc.tail() : b == 1 ? arc.head() : b == 2 ? arc.cost() : BAD_VALUE;
                case "limit": return isNode(a) ? graph.limits[a] : BAD_NODE;
                case "undo":
                    if (kept.isEmpty()) {
                        return NOT_POSSIBLE;
                    }
                    back(kept.removeLast());
                    return kept.size();
                case "write":
                    if (a < 32 || a > 126) {
                        return BAD_VALUE;
                    }
                    if (text.length() == 300) {
                        return FULL;
                    }
                    text += (char) a;
                    return text.length();
                case "wipe": {
                    int length = text.length();
                    text = "";
                    return length;
                }
                case "fault": return fault(text);
                case "isRecorded": return record == null ? 0 : 1;
                case "runs": return runs;
                case "reuses": return reuses;
                case "save":
                    if (a < 0 || a > 1) {
                        return BAD_VALUE;
                    }
                    slots[a] = keep();
                    return graph.arcs.size();
                case "restore":
                    if (a < 0 || a > 1) {
                        return BAD_VALUE;
                    }
                    if (slots[a] == null) {
                        return NOT_POSSIBLE;
                    }
                    back(slots[a]);
                    kept.clear();
                    return graph.arcs.size();
                case "limitedCost": case "limitedArc": return limited(name, a);
                case "priceBound": case "price": return prices(name, a, b, c);
                case "arborescences": return graph.all().size();
                case "arborescencesWith":
                    return isArc(a) ? graph.all().stream().filter(t -> t.contains(a)).count() : BAD_ARC;
                default: return byRecord(name, a, b);
            }
        }

        boolean isNode(int v) {
            return v >= 0 && v < graph.n;
        }

        boolean isArc(int a) {
            return a >= 0 && a < graph.arcs.size();
        }

        Kept keep() {
            return new Kept(graph.copy(), record == null ? null : record.copy());
        }

        void back(Kept state) {
            graph = state.graph().copy();
            record = state.record() == null ? null : state.record().copy();
        }

        long change(String name, int a, int b, int c) {
            long error = changeError(name, a, b, c);
            if (error != 0) {
                return error;
            }
            if (kept.size() == 8) {
                kept.removeFirst();
            }
            kept.addLast(keep());
            graph = graph.copy();
            int answer;
            boolean stays = false;
            switch (name) {
                case "begin":
                    answer = graph.n;
                    graph = new ModelGraph();
                    graph.n = a;
                    graph.root = b;
                    break;
                case "addArc":
                    answer = graph.arcs.size();
                    Arc added = new Arc(nextKey++, a, b, c);
                    graph.arcs.add(added);
                    stays = record != null && record.reduced(added, c) >= 0;
                    break;
                case "removeArc":
                    stays = record != null && !record.has(graph.arcs.remove(a));
                    if (record == null) {
                        graph.arcs.remove(a);
                    }
                    answer = graph.arcs.size();
                    break;
                case "setCost":
                    answer = graph.arcs.get(a).cost();
                    stays = setCost(a, b);
                    break;
                case "setRoot":
                    answer = graph.root;
                    graph.root = a;
                    break;
                case "setLimit":
                    answer = graph.limits[a];
                    graph.limits[a] = b;
                    stays = true;
                    break;
                case "addRandom":
                    addRandom(a, b);
                    answer = graph.arcs.size();
                    break;
                default:
                    read();
                    answer = graph.arcs.size();
            }
            if (record != null && stays) {
                reuses++;
            } else {
                record = null;
            }
            return answer;
        }

        long changeError(String name, int a, int b, int c) {
            switch (name) {
                case "begin":
                    return a < 2 || a > 8 ? BAD_VALUE : b < 0 || b >= a ? BAD_NODE : 0;
                case "addArc":
                    return !isNode(a) || !isNode(b) || a == b ? BAD_NODE : c < 0 || c > 99 ? BAD_VALUE
                            : graph.arcs.size() == 32 ? FULL : 0;
                case "removeArc":
                    return isArc(a) ? 0 : BAD_ARC;
                case "setCost":
                    return !isArc(a) ? BAD_ARC : b < 0 || b > 99 ? BAD_VALUE : 0;
                case "setRoot":
                    return isNode(a) ? 0 : BAD_NODE;
                case "setLimit":
                    return !isNode(a) ? BAD_NODE : b < 0 || b > 7 ? BAD_VALUE : 0;
                case "addRandom":
                    return a < 1 || a > 8 || b < 0 ? BAD_VALUE : graph.arcs.size() + a > 32 ? FULL : 0;
                default:
                    return fault(text) == NONE ? 0 : NOT_POSSIBLE;
            }
        }

        boolean setCost(int a, int cost) {
            Arc old = graph.arcs.get(a);
            Arc arc = new Arc(old.key(), old.tail(), old.head(), cost);
            graph.arcs.set(a, arc);
            if (record == null) {
                return false;
            }
            if (!record.has(arc)) {
                return record.reduced(arc, cost) >= 0;
            }
            record.duals.set(arc.head(), record.duals.get(arc.head()) + cost - old.cost());
            return graph.arcs.stream().noneMatch(o -> o.key() != arc.key() && o.head() == arc.head()
                    && record.reduced(o, o.cost()) < 0);
        }

        void addRandom(int many, int start) {
            java.math.BigInteger[] state = {java.math.BigInteger.valueOf(start)};
            for (int i = 0; i < many; i++) {
                int tail = draw(state, graph.n);
                int head = draw(state, graph.n - 1);
                graph.arcs.add(new Arc(nextKey++, tail, head < tail ? head : head + 1, draw(state, 100)));
            }
        }

        int draw(java.math.BigInteger[] state, int n) {
            state[0] = state[0].multiply(java.math.BigInteger.valueOf(1103515245))
                    .add(java.math.BigInteger.valueOf(12345)).mod(java.math.BigInteger.valueOf(2147483648L));
            return state[0].divide(java.math.BigInteger.valueOf(65536)).mod(java.math.BigInteger.valueOf(n)).intValue();
        }

        void read() {
            graph = new ModelGraph();
            String[] parts = text.split(",");
            graph.n = parts[0].charAt(0) - '0';
            graph.root = parts[0].charAt(2) - '0';
            for (int i = 1; i < parts.length; i++) {
                graph.arcs.add(new Arc(nextKey++, parts[i].charAt(0) - '0', parts[i].charAt(2) - '0',
                        Integer.parseInt(parts[i].substring(4))));
            }
        }

        long byRecord(String name, int a, int b) {
            boolean nodeMethod = name.equals("enteringArc") || name.equals("outDegree");
            boolean arcMethod = Arrays.asList("reducedCost", "costWithout", "costWith", "slack").contains(name);
            if (nodeMethod && !isNode(a)) {
                return BAD_NODE;
            }
            if (arcMethod && !isArc(a)) {
                return BAD_ARC;
            }
            if (name.equals("group") && (a < 0 || b < 0 || b > 2)
                    || name.equals("secondBest") && (a < 0 || a > 1) || name.equals("necessary") && a < 0) {
                return BAD_VALUE;
            }
            if (record == null) {
                runs++;
                record = contract(graph, graph.arcs.stream().mapToInt(Arc::cost).toArray());
            }
            if (record == null) {
                return NO_ARBORESCENCE;
            }
            List<Integer> tree = record.list(graph);
            int cost = graph.costOf(tree);
            switch (name) {
                case "cost": return cost;
                case "enteringArc":
                    for (int arc : tree) {
                        if (graph.arcs.get(arc).head() == a) {
                            return arc;
                        }
                    }
                    return NONE;
                case "outDegree": return graph.degree(tree, a);
                case "groups": return record.sets.size();
                case "group":
                    if (a >= record.sets.size()) {
                        return NONE;
                    }
                    return b == 1 ? record.duals.get(a) : b == 2 ? record.wholes.get(a)
                            : record.sets.get(a).stream().mapToInt(v -> 1 << v).sum();
                case "reducedCost": return record.reduced(graph.arcs.get(a), graph.arcs.get(a).cost());
                case "costWithout": return least(a, false);
                case "costWith": return least(a, true);
                case "slack": {
                    int other = least(a, !tree.contains(a));
                    return other == NONE ? NONE : other - cost;
                }
                case "secondBest": return secondBest(tree, a);
                default: {
                    List<Integer> always = new ArrayList<>();
                    for (int arc = 0; arc < graph.arcs.size(); arc++) {
                        int number = arc;
                        if (graph.all().stream().allMatch(t -> graph.costOf(t) != cost || t.contains(number))) {
                            always.add(arc);
                        }
                    }
                    return a < always.size() ? always.get(a) : NONE;
                }
            }
        }

        int least(int arc, boolean with) {
            return graph.all().stream().filter(t -> t.contains(arc) == with)
                    .mapToInt(graph::costOf).min().orElse(NONE);
        }

        int secondBest(List<Integer> tree, int what) {
            int best = graph.all().stream().filter(t -> !t.equals(tree)).mapToInt(graph::costOf).min().orElse(NONE);
            if (what == 0 || best == NONE) {
                return best;
            }
            for (int arc = 0; arc < graph.arcs.size(); arc++) {
                if (tree.contains(arc) && least(arc, false) == best) {
                    return arc;
                }
            }
            throw new IllegalStateException("no arc for the second best");
        }

        long limited(String name, int node) {
            if (name.equals("limitedArc") && !isNode(node)) {
                return BAD_NODE;
            }
            // The arborescences are listed in lexicographic order.
            List<Integer> best = null;
            for (List<Integer> tree : graph.all()) {
                if (graph.isLimited(tree) && (best == null || graph.costOf(tree) < graph.costOf(best))) {
                    best = tree;
                }
            }
            if (best == null) {
                return NO_ARBORESCENCE;
            }
            if (name.equals("limitedCost")) {
                return graph.costOf(best);
            }
            for (int arc : best) {
                if (graph.arcs.get(arc).head() == node) {
                    return arc;
                }
            }
            return NONE;
        }

        long prices(String name, int a, int b, int c) {
            boolean ofNode = name.equals("price");
            int rounds = ofNode ? b : a;
            int step = ofNode ? c : b;
            if (ofNode && !isNode(a)) {
                return BAD_NODE;
            }
            if (rounds < 1 || rounds > 20 || step < 1 || step > 20) {
                return BAD_VALUE;
            }
            int[] price = new int[graph.n];
            int greatest = Integer.MIN_VALUE;
            for (int round = 0; round < rounds; round++) {
                int[] costs = graph.arcs.stream().mapToInt(arc -> arc.cost() + price[arc.tail()]).toArray();
                ModelRecord result = contract(graph, costs);
                if (result == null) {
                    return NO_ARBORESCENCE;
                }
                List<Integer> tree = result.list(graph);
                int bound = tree.stream().mapToInt(arc -> costs[arc]).sum();
                for (int v = 0; v < graph.n; v++) {
                    bound -= price[v] * graph.limits[v];
                    int degree = graph.degree(tree, v);
                    if (degree > graph.limits[v]) {
                        price[v] += step;
                    } else if (degree < graph.limits[v]) {
                        price[v] = Math.max(0, price[v] - step);
                    }
                }
                greatest = Math.max(greatest, bound);
            }
            return ofNode ? price[a] : greatest;
        }

        /** The longest beginning of the text that a text of a graph can have. */
        static int fault(String text) {
            if (isGraph(text)) {
                return NONE;
            }
            int length = 0;
            while (length < text.length() && isBeginning(text.substring(0, length + 1))) {
                length++;
            }
            return length;
        }

        static boolean isGraph(String text) {
            if (!text.matches("[2-8]/[0-7](,[0-7]>[0-7]:[0-9]{1,2}){0,32}")) {
                return false;
            }
            int n = text.charAt(0) - '0';
            if (text.charAt(2) - '0' >= n) {
                return false;
            }
            String[] parts = text.split(",");
            for (int i = 1; i < parts.length; i++) {
                int tail = parts[i].charAt(0) - '0';
                int head = parts[i].charAt(2) - '0';
                if (tail >= n || head >= n || tail == head) {
                    return false;
                }
            }
            return true;
        }

        static boolean isBeginning(String text) {
            if (isGraph(text)) {
                return true;
            }
            // A beginning can be completed by at most this much.
            for (String tail : List.of("2/0", "/0", "0", ",0>1:0", "0>1:0", ">1:0", ">0:0", "1:0", "0:0", ":0")) {
                if (isGraph(text + tail)) {
                    return true;
                }
            }
            return false;
        }
    }
}
