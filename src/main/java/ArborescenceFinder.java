/**
 * A finder of cheapest spanning arborescences (directed spanning trees with a
 * given root) by cycle contraction, as in the algorithm of Edmonds.
 *
 * <p>All rows are made with the object and used again: no call makes an object.
 */
public final class ArborescenceFinder {

    /** There is no node with this number. */
    public static final int BAD_NODE = -101;
    /** There is no arc with this number. */
    public static final int BAD_ARC = -102;
    /** An argument is out of range. */
    public static final int BAD_VALUE = -103;
    /** A capacity is used up. */
    public static final int FULL = -104;
    /** The call is not possible, as the method says. */
    public static final int NOT_POSSIBLE = -105;
    /** There is no arborescence. */
    public static final int NO_ARBORESCENCE = -106;
    /** There is no such thing; not an error. */
    public static final int NONE = -107;

    private static final int MIN_NODES = 2;
    private static final int MAX_NODES = 8;
    private static final int FIRST_NODES = 5;
    private static final int MAX_ARCS = 32;
    /** The nodes, and a union of at least two groups at a time. */
    private static final int MAX_GROUPS = 2 * MAX_NODES - 1;
    private static final int MAX_COST = 99;
    private static final int MAX_LIMIT = 7;
    private static final int MAX_RANDOM = 8;
    private static final int MAX_ROUNDS = 20;
    private static final int MAX_STEP = 20;
    private static final int MAX_TEXT = 300;
    private static final int FIRST_CODE = 32;
    private static final int LAST_CODE = 126;
    private static final int KEPT_CHANGES = 8;
    private static final int SLOTS = 2;

    private static final long RANDOM_FACTOR = 1103515245L;
    private static final long RANDOM_STEP = 12345L;
    private static final long RANDOM_MODULUS = 2147483648L;
    private static final long RANDOM_SHIFT = 65536L;

    /** A set of arcs is an int, in which bit a stands for arc a. */
    private static final int ALL_ARCS = -1;
    /** Stands inside for an arc, a group or a digit that is not there. */
    private static final int NOTHING = -1;

    private final State now = new State();
    /** A ring: the oldest change that is kept gives its place to a new one. */
    private final State[] kept = new State[KEPT_CHANGES];
    private int oldestKept;
    private int keptCount;
    private final State[] slots = new State[SLOTS];
    private final boolean[] slotFilled = new boolean[SLOTS];
    private int runCount;
    private int reuseCount;
    private final GraphText text = new GraphText();
    private final Graph draft = new Graph();
    private final Contraction contraction = new Contraction();
    private final LimitedSearch limited = new LimitedSearch();
    private final PriceRounds prices = new PriceRounds();
    private final TreeCounter counter = new TreeCounter();

    public ArborescenceFinder() {
        for (int i = 0; i < KEPT_CHANGES; i++) {
            kept[i] = new State();
        }
        for (int i = 0; i < SLOTS; i++) {
            slots[i] = new State();
        }
    }

    // ---- The graph

    public int begin(int nodes, int root) {
        if (nodes < MIN_NODES || nodes > MAX_NODES) {
            return BAD_VALUE;
        }
        if (root < 0 || root >= nodes) {
            return BAD_NODE;
        }
        int previous = now.graph.nodeCount;
        keepForUndo();
        now.graph.clear(nodes, root);
        settleRecord(false);
        return previous;
    }

    public int addArc(int tail, int head, int cost) {
        Graph graph = now.graph;
        if (!graph.hasNode(tail) || !graph.hasNode(head) || tail == head) {
            return BAD_NODE;
        }
        if (cost < 0 || cost > MAX_COST) {
            return BAD_VALUE;
        }
        if (graph.arcCount >= MAX_ARCS) {
            return FULL;
        }
        keepForUndo();
        int arc = graph.arcCount;
        graph.append(tail, head, cost);
        settleRecord(now.record.followNew(graph, arc));
        return arc;
    }

    public int removeArc(int arc) {
        Graph graph = now.graph;
        if (!graph.hasArc(arc)) {
            return BAD_ARC;
        }
        keepForUndo();
        settleRecord(now.record.followRemoval(graph, arc));
        graph.delete(arc);
        return graph.arcCount;
    }

    public int setCost(int arc, int cost) {
        Graph graph = now.graph;
        if (!graph.hasArc(arc)) {
            return BAD_ARC;
        }
        if (cost < 0 || cost > MAX_COST) {
            return BAD_VALUE;
        }
        int previous = graph.costOf[arc];
        keepForUndo();
        graph.costOf[arc] = cost;
        settleRecord(now.record.followCost(graph, arc, cost - previous));
        return previous;
    }

    public int setRoot(int node) {
        if (!now.graph.hasNode(node)) {
            return BAD_NODE;
        }
        int previous = now.graph.rootNode;
        keepForUndo();
        now.graph.rootNode = node;
        settleRecord(false);
        return previous;
    }

    public int setLimit(int node, int limit) {
        if (!now.graph.hasNode(node)) {
            return BAD_NODE;
        }
        if (limit < 0 || limit > MAX_LIMIT) {
            return BAD_VALUE;
        }
        int previous = now.graph.limitOf[node];
        keepForUndo();
        now.graph.limitOf[node] = limit;
        settleRecord(true);
        return previous;
    }

    public int addRandom(int many, int state) {
        if (many < 1 || many > MAX_RANDOM || state < 0) {
            return BAD_VALUE;
        }
        if (now.graph.arcCount + many > MAX_ARCS) {
            return FULL;
        }
        keepForUndo();
        appendRandom(now.graph, many, state);
        settleRecord(false);
        return now.graph.arcCount;
    }

    public int nodes() {
        return now.graph.nodeCount;
    }

    public int root() {
        return now.graph.rootNode;
    }

    public int arcs() {
        return now.graph.arcCount;
    }

    public int arc(int arc, int what) {
        Graph graph = now.graph;
        if (!graph.hasArc(arc)) {
            return BAD_ARC;
        }
        switch (what) {
            case 0:
                return graph.tailOf[arc];
            case 1:
                return graph.headOf[arc];
            case 2:
                return graph.costOf[arc];
            default:
                return BAD_VALUE;
        }
    }

    public int limit(int node) {
        return now.graph.hasNode(node) ? now.graph.limitOf[node] : BAD_NODE;
    }

    public int undo() {
        if (keptCount == 0) {
            return NOT_POSSIBLE;
        }
        keptCount--;
        now.copyFrom(kept[(oldestKept + keptCount) % KEPT_CHANGES]);
        limited.forget();
        return keptCount;
    }

    // ---- The text

    public int write(int code) {
        if (code < FIRST_CODE || code > LAST_CODE) {
            return BAD_VALUE;
        }
        if (text.length >= MAX_TEXT) {
            return FULL;
        }
        text.append(code);
        return text.length;
    }

    public int wipe() {
        int previous = text.length;
        text.length = 0;
        return previous;
    }

    public int fault() {
        return text.readInto(draft) ? NONE : text.at;
    }

    public int load() {
        if (!text.readInto(draft)) {
            return NOT_POSSIBLE;
        }
        keepForUndo();
        now.graph.copyFrom(draft);
        settleRecord(false);
        return now.graph.arcCount;
    }

    // ---- The record

    public int isRecorded() {
        return now.record.present ? 1 : 0;
    }

    public int runs() {
        return runCount;
    }

    public int reuses() {
        return reuseCount;
    }

    // ---- The cheapest arborescence

    public int cost() {
        return haveRecord() ? recordedCost() : NO_ARBORESCENCE;
    }

    public int enteringArc(int node) {
        if (!now.graph.hasNode(node)) {
            return BAD_NODE;
        }
        if (!haveRecord()) {
            return NO_ARBORESCENCE;
        }
        return node == now.graph.rootNode ? NONE : now.record.entering[node];
    }

    public int outDegree(int node) {
        if (!now.graph.hasNode(node)) {
            return BAD_NODE;
        }
        if (!haveRecord()) {
            return NO_ARBORESCENCE;
        }
        return now.record.arcsFrom(now.graph, node);
    }

    public int groups() {
        return haveRecord() ? now.record.count : NO_ARBORESCENCE;
    }

    public int group(int group, int what) {
        if (group < 0 || what < 0 || what > 2) {
            return BAD_VALUE;
        }
        if (!haveRecord()) {
            return NO_ARBORESCENCE;
        }
        Groups record = now.record;
        if (group >= record.count) {
            return NONE;
        }
        if (what == 0) {
            return record.nodeSet[group];
        }
        if (what == 1) {
            return record.dual[group];
        }
        return record.whole[group] == NOTHING ? NONE : record.whole[group];
    }

    public int reducedCost(int arc) {
        if (!now.graph.hasArc(arc)) {
            return BAD_ARC;
        }
        if (!haveRecord()) {
            return NO_ARBORESCENCE;
        }
        return now.record.reducedCostOf(now.graph, arc);
    }

    // ---- Slacks and alternatives

    public int costWithout(int arc) {
        if (!now.graph.hasArc(arc)) {
            return BAD_ARC;
        }
        return haveRecord() ? cheapestWithout(arc) : NO_ARBORESCENCE;
    }

    public int costWith(int arc) {
        if (!now.graph.hasArc(arc)) {
            return BAD_ARC;
        }
        return haveRecord() ? cheapestWith(arc) : NO_ARBORESCENCE;
    }

    public int slack(int arc) {
        if (!now.graph.hasArc(arc)) {
            return BAD_ARC;
        }
        if (!haveRecord()) {
            return NO_ARBORESCENCE;
        }
        boolean chosen = now.record.contains(now.graph, arc);
        int other = chosen ? cheapestWithout(arc) : cheapestWith(arc);
        return other == NONE ? NONE : other - recordedCost();
    }

    public int secondBest(int what) {
        if (what < 0 || what > 1) {
            return BAD_VALUE;
        }
        if (!haveRecord()) {
            return NO_ARBORESCENCE;
        }
        int leftOut = NOTHING;
        int least = 0;
        for (int arc = 0; arc < now.graph.arcCount; arc++) {
            if (now.record.contains(now.graph, arc)) {
                int other = cheapestWithout(arc);
                if (other != NONE && (leftOut == NOTHING || other < least)) {
                    leftOut = arc;
                    least = other;
                }
            }
        }
        if (leftOut == NOTHING) {
            return NONE;
        }
        return what == 0 ? least : leftOut;
    }

    public int necessary(int k) {
        if (k < 0) {
            return BAD_VALUE;
        }
        if (!haveRecord()) {
            return NO_ARBORESCENCE;
        }
        int before = 0;
        for (int arc = 0; arc < now.graph.arcCount; arc++) {
            if (isNecessary(arc)) {
                if (before == k) {
                    return arc;
                }
                before++;
            }
        }
        return NONE;
    }

    // ---- Limited out-degrees (the record is not needed)

    public int limitedCost() {
        return limited.find(now.graph, contraction) ? limited.bestCost : NO_ARBORESCENCE;
    }

    public int limitedArc(int node) {
        if (!now.graph.hasNode(node)) {
            return BAD_NODE;
        }
        if (!limited.find(now.graph, contraction)) {
            return NO_ARBORESCENCE;
        }
        return node == now.graph.rootNode ? NONE : limited.best[node];
    }

    public int priceBound(int rounds, int step) {
        if (!areRounds(rounds, step)) {
            return BAD_VALUE;
        }
        return prices.play(now.graph, contraction, rounds, step)
                ? prices.greatestBound : NO_ARBORESCENCE;
    }

    public int price(int node, int rounds, int step) {
        if (!now.graph.hasNode(node)) {
            return BAD_NODE;
        }
        if (!areRounds(rounds, step)) {
            return BAD_VALUE;
        }
        return prices.play(now.graph, contraction, rounds, step)
                ? prices.priceOf[node] : NO_ARBORESCENCE;
    }

    // ---- Counts (the record is not needed)

    public long arborescences() {
        return counter.countIn(now.graph, ALL_ARCS);
    }

    public long arborescencesWith(int arc) {
        Graph graph = now.graph;
        if (!graph.hasArc(arc)) {
            return BAD_ARC;
        }
        if (graph.headOf[arc] == graph.rootNode) {
            return 0;
        }
        return counter.countIn(graph, graph.withoutRivals(arc));
    }

    // ---- Saved states

    public int save(int slot) {
        if (slot < 0 || slot >= SLOTS) {
            return BAD_VALUE;
        }
        slots[slot].copyFrom(now);
        slotFilled[slot] = true;
        return now.graph.arcCount;
    }

    public int restore(int slot) {
        if (slot < 0 || slot >= SLOTS) {
            return BAD_VALUE;
        }
        if (!slotFilled[slot]) {
            return NOT_POSSIBLE;
        }
        now.copyFrom(slots[slot]);
        keptCount = 0;
        limited.forget();
        return now.graph.arcCount;
    }

    // ---- What the calls share

    /** Stands at the beginning of each change, when no error can come any more. */
    private void keepForUndo() {
        if (keptCount == KEPT_CHANGES) {
            oldestKept = (oldestKept + 1) % KEPT_CHANGES;
            keptCount--;
        }
        kept[(oldestKept + keptCount) % KEPT_CHANGES].copyFrom(now);
        keptCount++;
        limited.forget();
    }

    /** Stands in each change; where there is no record, nothing is reused. */
    private void settleRecord(boolean stays) {
        if (!now.record.present) {
            return;
        }
        if (stays) {
            reuseCount++;
        } else {
            now.record.present = false;
        }
    }

    private boolean haveRecord() {
        if (now.record.present) {
            return true;
        }
        runCount++;
        if (!contraction.contract(now.graph, now.graph.costOf, ALL_ARCS)) {
            return false;
        }
        now.record.copyFrom(contraction.result);
        return true;
    }

    private int recordedCost() {
        return now.record.costBy(now.graph, now.graph.costOf);
    }

    private int cheapestWithout(int arc) {
        return cheapestAmong(ALL_ARCS & ~(1 << arc));
    }

    private int cheapestWith(int arc) {
        if (now.graph.headOf[arc] == now.graph.rootNode) {
            return NONE;
        }
        return cheapestAmong(now.graph.withoutRivals(arc));
    }

    private int cheapestAmong(int allowed) {
        int[] costs = now.graph.costOf;
        if (!contraction.contract(now.graph, costs, allowed)) {
            return NONE;
        }
        return contraction.result.costBy(now.graph, costs);
    }

    /** Only an arc of the record's arborescence can be in all cheapest ones. */
    private boolean isNecessary(int arc) {
        if (!now.record.contains(now.graph, arc)) {
            return false;
        }
        int other = cheapestWithout(arc);
        return other == NONE || other > recordedCost();
    }

    private static boolean areRounds(int rounds, int step) {
        return rounds >= 1 && rounds <= MAX_ROUNDS && step >= 1 && step <= MAX_STEP;
    }

    private static void appendRandom(Graph graph, int many, int firstState) {
        long state = firstState;
        for (int i = 0; i < many; i++) {
            state = nextRandom(state);
            int tail = randomBelow(graph.nodeCount, state);
            state = nextRandom(state);
            int head = randomBelow(graph.nodeCount - 1, state);
            if (head >= tail) {
                head++;
            }
            state = nextRandom(state);
            graph.append(tail, head, randomBelow(MAX_COST + 1, state));
        }
    }

    /** In long, where the product of two numbers below 2 to the 31st fits. */
    private static long nextRandom(long state) {
        return (RANDOM_FACTOR * state + RANDOM_STEP) % RANDOM_MODULUS;
    }

    private static int randomBelow(int n, long state) {
        return n < 1 ? 0 : (int) (state / RANDOM_SHIFT % n);
    }

    private static boolean isIn(int nodeSet, int node) {
        return (nodeSet >> node & 1) != 0;
    }

    private static boolean isAllowed(int arcSet, int arc) {
        return (arcSet >>> arc & 1) != 0;
    }

    /** The nodes, the root, the arcs and the limits. */
    private static final class Graph {
        int nodeCount;
        int rootNode;
        int arcCount;
        final int[] tailOf = new int[MAX_ARCS];
        final int[] headOf = new int[MAX_ARCS];
        final int[] costOf = new int[MAX_ARCS];
        final int[] limitOf = new int[MAX_NODES];

        Graph() {
            clear(FIRST_NODES, 0);
        }

        void clear(int newNodes, int newRoot) {
            nodeCount = newNodes;
            rootNode = newRoot;
            arcCount = 0;
            for (int v = 0; v < MAX_NODES; v++) {
                limitOf[v] = MAX_LIMIT;
            }
        }

        void copyFrom(Graph other) {
            nodeCount = other.nodeCount;
            rootNode = other.rootNode;
            arcCount = other.arcCount;
            System.arraycopy(other.tailOf, 0, tailOf, 0, MAX_ARCS);
            System.arraycopy(other.headOf, 0, headOf, 0, MAX_ARCS);
            System.arraycopy(other.costOf, 0, costOf, 0, MAX_ARCS);
            System.arraycopy(other.limitOf, 0, limitOf, 0, MAX_NODES);
        }

        boolean hasNode(int node) {
            return node >= 0 && node < nodeCount;
        }

        boolean hasArc(int number) {
            return number >= 0 && number < arcCount;
        }

        void append(int tail, int head, int newCost) {
            if (arcCount >= MAX_ARCS) {
                return;
            }
            tailOf[arcCount] = tail;
            headOf[arcCount] = head;
            costOf[arcCount] = newCost;
            arcCount++;
        }

        void delete(int number) {
            for (int a = number; a + 1 < arcCount; a++) {
                tailOf[a] = tailOf[a + 1];
                headOf[a] = headOf[a + 1];
                costOf[a] = costOf[a + 1];
            }
            arcCount--;
        }

        /** All arcs but those that lead to the same head as this one. */
        int withoutRivals(int number) {
            int allowed = ALL_ARCS;
            for (int a = 0; a < arcCount; a++) {
                if (a != number && headOf[a] == headOf[number]) {
                    allowed &= ~(1 << a);
                }
            }
            return allowed;
        }

        boolean enters(int number, int nodeSet) {
            return isIn(nodeSet, headOf[number]) && !isIn(nodeSet, tailOf[number]);
        }
    }

    /** The result of a contraction: the groups, and the arborescence by its heads. */
    private static final class Groups {
        boolean present;
        int count;
        final int[] nodeSet = new int[MAX_GROUPS];
        final int[] dual = new int[MAX_GROUPS];
        /** The group of which a group is a part, or NOTHING if it is on top. */
        final int[] whole = new int[MAX_GROUPS];
        /** The arc to each node; NOTHING for the root. */
        final int[] entering = new int[MAX_NODES];

        void copyFrom(Groups other) {
            present = other.present;
            count = other.count;
            System.arraycopy(other.nodeSet, 0, nodeSet, 0, MAX_GROUPS);
            System.arraycopy(other.dual, 0, dual, 0, MAX_GROUPS);
            System.arraycopy(other.whole, 0, whole, 0, MAX_GROUPS);
            System.arraycopy(other.entering, 0, entering, 0, MAX_NODES);
        }

        void beginWithNodes(int nodeCount) {
            present = false;
            count = 0;
            for (int v = 0; v < nodeCount; v++) {
                add(1 << v);
            }
        }

        void add(int nodes) {
            if (count >= MAX_GROUPS) {
                return;
            }
            nodeSet[count] = nodes;
            dual[count] = 0;
            whole[count] = NOTHING;
            count++;
        }

        boolean contains(Graph graph, int number) {
            return entering[graph.headOf[number]] == number;
        }

        int costBy(Graph graph, int[] costs) {
            int sum = 0;
            for (int v = 0; v < graph.nodeCount; v++) {
                if (entering[v] != NOTHING) {
                    sum += costs[entering[v]];
                }
            }
            return sum;
        }

        int arcsFrom(Graph graph, int node) {
            int many = 0;
            for (int v = 0; v < graph.nodeCount; v++) {
                if (entering[v] != NOTHING && graph.tailOf[entering[v]] == node) {
                    many++;
                }
            }
            return many;
        }

        int reducedCostOf(Graph graph, int number) {
            int rest = graph.costOf[number];
            for (int g = 0; g < count; g++) {
                if (graph.enters(number, nodeSet[g])) {
                    rest -= dual[g];
                }
            }
            return rest;
        }

        // The following three go along with a change of the graph, as far as there is
        // a record, and tell if the record stays.

        /** The arc has been added. */
        boolean followNew(Graph graph, int number) {
            return present && reducedCostOf(graph, number) >= 0;
        }

        /** The arc is in the graph still. */
        boolean followRemoval(Graph graph, int number) {
            if (!present || contains(graph, number)) {
                return false;
            }
            for (int v = 0; v < graph.nodeCount; v++) {
                if (entering[v] > number) {
                    entering[v]--;
                }
            }
            return true;
        }

        /** The arc has its new cost. */
        boolean followCost(Graph graph, int number, int change) {
            if (!present) {
                return false;
            }
            if (!contains(graph, number)) {
                return reducedCostOf(graph, number) >= 0;
            }
            int head = graph.headOf[number];
            dual[head] += change;
            for (int a = 0; a < graph.arcCount; a++) {
                if (a != number && graph.headOf[a] == head && reducedCostOf(graph, a) < 0) {
                    return false;
                }
            }
            return true;
        }
    }

    /** What undoing and restoring bring back. */
    private static final class State {
        final Graph graph = new Graph();
        final Groups record = new Groups();

        void copyFrom(State other) {
            graph.copyFrom(other.graph);
            record.copyFrom(other.record);
        }
    }

    /** Makes a contraction, with the costs and the set of arcs that it is given. */
    private static final class Contraction {
        final Groups result = new Groups();
        /** The reduced costs, which follow the dual values as these are set. */
        final int[] reduced = new int[MAX_ARCS];
        private final int[] selected = new int[MAX_GROUPS];
        /** The group on top that has a node. */
        private final int[] topOf = new int[MAX_NODES];
        /** The arc by which each group is entered in the arborescence. */
        private final int[] entered = new int[MAX_GROUPS];

        /** Tells if there is an arborescence; the result has it then. */
        boolean contract(Graph graph, int[] costs, int allowed) {
            prepare(graph, costs);
            // Each step selects an arc for one more group, so there are fewer steps than groups.
            for (int step = 0; step < MAX_GROUPS; step++) {
                int group = nextGroup(graph);
                if (group == NOTHING) {
                    readOff(graph);
                    result.present = true;
                    return true;
                }
                selected[group] = cheapestEntering(graph, group, allowed);
                if (selected[group] == NOTHING) {
                    return false;
                }
                setDual(graph, group);
                if (closesCycle(graph, group)) {
                    uniteCycle(graph, group);
                }
            }
            return false;
        }

        private void prepare(Graph graph, int[] costs) {
            result.beginWithNodes(graph.nodeCount);
            for (int v = 0; v < graph.nodeCount; v++) {
                topOf[v] = v;
            }
            for (int g = 0; g < MAX_GROUPS; g++) {
                selected[g] = NOTHING;
            }
            System.arraycopy(costs, 0, reduced, 0, graph.arcCount);
        }

        /** Nodes are looked at in ascending order: the first hit has the lowest node. */
        private int nextGroup(Graph graph) {
            for (int v = 0; v < graph.nodeCount; v++) {
                if (v != graph.rootNode && selected[topOf[v]] == NOTHING) {
                    return topOf[v];
                }
            }
            return NOTHING;
        }

        private int cheapestEntering(Graph graph, int group, int allowed) {
            int nodes = result.nodeSet[group];
            int least = NOTHING;
            for (int a = 0; a < graph.arcCount; a++) {
                if (isAllowed(allowed, a) && graph.enters(a, nodes)
                        && (least == NOTHING || reduced[a] < reduced[least])) {
                    least = a;
                }
            }
            return least;
        }

        private void setDual(Graph graph, int group) {
            int nodes = result.nodeSet[group];
            int value = reduced[selected[group]];
            result.dual[group] = value;
            for (int a = 0; a < graph.arcCount; a++) {
                if (graph.enters(a, nodes)) {
                    reduced[a] -= value;
                }
            }
        }

        /** The group on top from which the selected arc of a group comes. */
        private int groupBefore(Graph graph, int group) {
            return topOf[graph.tailOf[selected[group]]];
        }

        private boolean closesCycle(Graph graph, int group) {
            int at = group;
            for (int i = 0; i < graph.nodeCount; i++) {
                at = groupBefore(graph, at);
                if (at == group) {
                    return true;
                }
                if (selected[at] == NOTHING) {
                    return false;
                }
            }
            return false;
        }

        private void uniteCycle(Graph graph, int group) {
            int union = result.count;
            int nodes = 0;
            int at = group;
            for (int i = 0; i < graph.nodeCount; i++) {
                nodes |= result.nodeSet[at];
                result.whole[at] = union;
                at = groupBefore(graph, at);
                if (at == group) {
                    break;
                }
            }
            result.add(nodes);
            for (int v = 0; v < graph.nodeCount; v++) {
                if (isIn(nodes, v)) {
                    topOf[v] = union;
                }
            }
        }

        /** A part has a lower number than its whole: downwards, the whole comes first. */
        private void readOff(Graph graph) {
            for (int g = result.count - 1; g >= 0; g--) {
                entered[g] = selected[g];
                int whole = result.whole[g];
                int arcOfWhole = whole == NOTHING ? NOTHING : entered[whole];
                if (arcOfWhole != NOTHING
                        && isIn(result.nodeSet[g], graph.headOf[arcOfWhole])) {
                    entered[g] = arcOfWhole;
                }
            }
            System.arraycopy(entered, 0, result.entering, 0, graph.nodeCount);
        }
    }

    /** Finds the best limited arborescence, and remembers it until it is told to forget. */
    private static final class LimitedSearch {
        private boolean known;
        private boolean found;
        int bestCost;
        final int[] best = new int[MAX_NODES];
        private final int[] chosen = new int[MAX_NODES];
        private final int[] arcsLeft = new int[MAX_NODES];
        private final int[] reduced = new int[MAX_ARCS];

        void forget() {
            known = false;
        }

        /** Tells if there is a limited arborescence. */
        boolean find(Graph graph, Contraction contraction) {
            if (!known) {
                found = false;
                if (contraction.contract(graph, graph.costOf, ALL_ARCS)) {
                    prepare(graph, contraction.reduced);
                    choose(this, graph, 0, contraction.result.costBy(graph, graph.costOf));
                }
                known = true;
            }
            return found;
        }

        private void prepare(Graph graph, int[] reducedCosts) {
            System.arraycopy(reducedCosts, 0, reduced, 0, MAX_ARCS);
            System.arraycopy(graph.limitOf, 0, arcsLeft, 0, MAX_NODES);
            for (int v = 0; v < MAX_NODES; v++) {
                chosen[v] = NOTHING;
            }
        }

        /**
         * Chooses arcs for this head and those behind it, in lexicographic order, so
         * that of several best ones the smallest is found first. The bound is the least
         * cost without limits and the reduced costs of what is chosen: an arborescence
         * enters each group at least once, so it cannot cost less.
         */
        private static void choose(LimitedSearch search, Graph graph, int head, int bound) {
            if (head >= graph.nodeCount) {
                search.take(graph);
                return;
            }
            if (head == graph.rootNode) {
                choose(search, graph, head + 1, bound);
                return;
            }
            for (int a = 0; a < graph.arcCount; a++) {
                if (graph.headOf[a] == head && search.isUseful(bound + search.reduced[a])
                        && search.canTake(graph, a)) {
                    int tail = graph.tailOf[a];
                    search.chosen[head] = a;
                    search.arcsLeft[tail]--;
                    choose(search, graph, head + 1, bound + search.reduced[a]);
                    search.arcsLeft[tail]++;
                    search.chosen[head] = NOTHING;
                }
            }
        }

        private boolean isUseful(int bound) {
            return !found || bound < bestCost;
        }

        private boolean canTake(Graph graph, int number) {
            int at = graph.tailOf[number];
            if (arcsLeft[at] <= 0) {
                return false;
            }
            for (int i = 0; i < graph.nodeCount && chosen[at] != NOTHING; i++) {
                at = graph.tailOf[chosen[at]];
            }
            return at != graph.headOf[number];
        }

        private void take(Graph graph) {
            int sum = 0;
            for (int v = 0; v < graph.nodeCount; v++) {
                if (chosen[v] != NOTHING) {
                    sum += graph.costOf[chosen[v]];
                }
            }
            if (isUseful(sum)) {
                found = true;
                bestCost = sum;
                System.arraycopy(chosen, 0, best, 0, MAX_NODES);
            }
        }
    }

    /** Plays rounds by prices. */
    private static final class PriceRounds {
        int greatestBound;
        final int[] priceOf = new int[MAX_NODES];
        private final int[] pricedCost = new int[MAX_ARCS];

        /** Tells if there is an arborescence. */
        boolean play(Graph graph, Contraction contraction, int rounds, int step) {
            for (int v = 0; v < MAX_NODES; v++) {
                priceOf[v] = 0;
            }
            for (int round = 0; round < rounds; round++) {
                setPricedCosts(graph);
                if (!contraction.contract(graph, pricedCost, ALL_ARCS)) {
                    return false;
                }
                int bound = boundOf(graph, contraction.result);
                if (round == 0 || bound > greatestBound) {
                    greatestBound = bound;
                }
                changePrices(graph, contraction.result, step);
            }
            return true;
        }

        private void setPricedCosts(Graph graph) {
            for (int a = 0; a < graph.arcCount; a++) {
                pricedCost[a] = graph.costOf[a] + priceOf[graph.tailOf[a]];
            }
        }

        private int boundOf(Graph graph, Groups result) {
            int bound = result.costBy(graph, pricedCost);
            for (int v = 0; v < graph.nodeCount; v++) {
                bound -= priceOf[v] * graph.limitOf[v];
            }
            return bound;
        }

        private void changePrices(Graph graph, Groups result, int step) {
            for (int v = 0; v < graph.nodeCount; v++) {
                int many = result.arcsFrom(graph, v);
                if (many > graph.limitOf[v]) {
                    priceOf[v] += step;
                } else if (many < graph.limitOf[v]) {
                    priceOf[v] = Math.max(0, priceOf[v] - step);
                }
            }
        }
    }

    /** Counts arborescences by a determinant (the matrix-tree theorem). */
    private static final class TreeCounter {
        private final long[][] matrix = new long[MAX_NODES][MAX_NODES];

        long countIn(Graph graph, int allowed) {
            fill(graph, allowed);
            return determinant(graph.nodeCount);
        }

        /** The row and the column of the root have a 1 where they meet, so they do not count. */
        private void fill(Graph graph, int allowed) {
            for (int i = 0; i < MAX_NODES; i++) {
                for (int j = 0; j < MAX_NODES; j++) {
                    matrix[i][j] = 0;
                }
            }
            matrix[graph.rootNode][graph.rootNode] = 1;
            for (int a = 0; a < graph.arcCount; a++) {
                int head = graph.headOf[a];
                int tail = graph.tailOf[a];
                if (isAllowed(allowed, a) && head != graph.rootNode) {
                    matrix[head][head]++;
                    if (tail != graph.rootNode) {
                        matrix[head][tail]--;
                    }
                }
            }
        }

        /**
         * By the elimination of Bareiss, in which each division leaves no rest. No rows are
         * exchanged: in each row the entry on the diagonal is at least as great as all others
         * together, so where it is 0, the whole row is.
         */
        private long determinant(int size) {
            long before = 1;
            for (int k = 0; k < size; k++) {
                if (matrix[k][k] == 0) {
                    return 0;
                }
                eliminate(k, size, before);
                before = matrix[k][k];
            }
            return before;
        }

        private void eliminate(int k, int size, long before) {
            if (before == 0) {
                return;
            }
            for (int i = k + 1; i < size; i++) {
                for (int j = k + 1; j < size; j++) {
                    matrix[i][j] = (matrix[i][j] * matrix[k][k] - matrix[i][k] * matrix[k][j])
                            / before;
                }
            }
        }
    }

    /** The text, and the reading of a graph from it. */
    private static final class GraphText {
        int length;
        /** Where the reading stands; after a reading that fails, the fault. */
        int at;
        private final char[] signs = new char[MAX_TEXT];

        void append(int code) {
            if (length < MAX_TEXT) {
                signs[length] = (char) code;
                length++;
            }
        }

        /** Tells if the text has no fault; the graph is a draft until then. */
        boolean readInto(Graph graph) {
            at = 0;
            int nodeCount = takeDigit(MIN_NODES, MAX_NODES);
            if (nodeCount == NOTHING || !takeSign('/')) {
                return false;
            }
            int rootNode = takeDigit(0, nodeCount - 1);
            if (rootNode == NOTHING) {
                return false;
            }
            graph.clear(nodeCount, rootNode);
            // Once more than there may be arcs, so that the comma of one too many is seen.
            for (int i = 0; i <= MAX_ARCS && at < length; i++) {
                if (graph.arcCount >= MAX_ARCS || !readArc(graph)) {
                    return false;
                }
            }
            return true;
        }

        private boolean readArc(Graph graph) {
            if (!takeSign(',')) {
                return false;
            }
            int tail = takeDigit(0, graph.nodeCount - 1);
            if (tail == NOTHING || !takeSign('>')) {
                return false;
            }
            int headAt = at;
            int head = takeDigit(0, graph.nodeCount - 1);
            if (head == tail) {
                at = headAt;
                return false;
            }
            if (head == NOTHING || !takeSign(':')) {
                return false;
            }
            int arcCost = takeNumber();
            if (arcCost == NOTHING) {
                return false;
            }
            graph.append(tail, head, arcCost);
            return true;
        }

        private int takeNumber() {
            int first = takeDigit(0, 9);
            if (first == NOTHING) {
                return NOTHING;
            }
            int second = takeDigit(0, 9);
            return second == NOTHING ? first : 10 * first + second;
        }

        private boolean takeSign(char sign) {
            if (at >= length || signs[at] != sign) {
                return false;
            }
            at++;
            return true;
        }

        private int takeDigit(int low, int high) {
            if (at >= length || signs[at] < '0' + low || signs[at] > '0' + high) {
                return NOTHING;
            }
            int digit = signs[at] - '0';
            at++;
            return digit;
        }
    }
}
