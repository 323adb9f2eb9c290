import java.lang.reflect.Method;
import java.nio.file.Files;
import java.nio.file.Path;
import java.util.ArrayList;
import java.util.HashMap;
import java.util.List;
import java.util.Map;
import java.util.Set;
import java.util.TreeSet;

/**
 * The sentences of the document that name a boundary case, one by one: says(..) names the
 * promise and the sentence, and what follows it is what the sentence asks for.
 *
 * <p>Calls are written as in the document's examples, "begin(4, 0) = 5; addArc(0, 1, 10) = 0";
 * an answer may be left out or be a constant's name, "31 times addArc(0, 1, 1)" is said of
 * one call, and text "2/0" writes its characters.
 */
public final class BoundaryTest {
    private static final Path DOCUMENT = Path.of("../shared/DOC.md");
    private static final int TERMS = 0;
    private static final int PROMISES = 40;
    private static final int LAST_CALL = 512;

    // States in which a call is refused. Each has something that a careless refusal could
    // harm: a graph, limits, a record or none, changes that are kept, a slot, a text.
    private static final String NEW = "";
    private static final String RICH = "begin(4, 0); addArc(0, 1, 10); addArc(1, 2, 2); addArc(2, 1, 3);"
            + " addArc(2, 3, 4); addArc(0, 2, 12); setLimit(2, 1); save(1); text \"3/2,2>0:14\";"
            + " cost() = 16; setCost(3, 5) = 4; isRecorded() = 1; reuses() = 1";
    private static final String BARREN = "begin(2, 1); addArc(0, 1, 3); setLimit(0, 2); save(0);"
            + " text \"2/0,0>0:1\"; cost() = NO_ARBORESCENCE; runs() = 1";
    private static final String FULL_GRAPH = "begin(8, 7); 8 times addArc(7, 0, 6); addArc(7, 1, 6);"
            + " addArc(7, 2, 6); addArc(7, 3, 6); addArc(7, 4, 6); addArc(7, 5, 6); addArc(7, 6, 6);"
            + " addRandom(8, 1); addRandom(8, 2); addRandom(2, 3) = 32; cost(); isRecorded() = 1";
    private static final String[] STATES = {NEW, RICH, BARREN, FULL_GRAPH};

    /** Nodes 1 and 2 form group 4; the arborescence has the arcs 0, 1 and 3. */
    private static final String CYCLE = "begin(4, 0); addArc(0, 1, 10); addArc(1, 2, 2); addArc(2, 1, 3);"
            + " addArc(2, 3, 4); addArc(0, 2, 12); cost() = 16; ";
    private static final String STAYS = "; isRecorded() = 1; reuses() = 1; runs() = 1; cost(); runs() = 1";
    private static final String DROPPED = "; isRecorded() = 0; reuses() = 0; runs() = 1; cost(); runs() = 2";

    private static final String[] NEED_THE_RECORD = {
        "cost()", "enteringArc(1)", "outDegree(1)", "groups()", "group(0, 0)", "reducedCost(0)",
        "costWithout(0)", "costWith(0)", "slack(0)", "secondBest(0)", "necessary(0)"};
    private static final String[] NEED_NO_RECORD = {
        "nodes()", "root()", "arcs()", "arc(0, 0)", "limit(0)", "wipe()", "fault()", "write(50)", "isRecorded()",
        "runs()", "reuses()", "limitedCost()", "limitedArc(1)", "priceBound(20, 20)", "price(0, 20, 20)",
        "arborescences()", "arborescencesWith(0)", "save(0)"};

    private static final Map<String, Method> METHODS = new HashMap<>();
    private static final Map<String, Long> CONSTANTS = new HashMap<>();
    private static final Set<Integer> NAMED = new TreeSet<>();
    private static String document;
    private static String named = "";
    private static int wrong;

    public static void main(String[] args) throws Exception {
        for (Method method : ArborescenceFinder.class.getDeclaredMethods()) {
            METHODS.putIfAbsent(method.getName(), method);
        }
        String[] constants = {"BAD_NODE", "BAD_ARC", "BAD_VALUE", "FULL", "NOT_POSSIBLE", "NO_ARBORESCENCE", "NONE"};
        for (int i = 0; i < constants.length; i++) {
            CONSTANTS.put(constants[i], -101L - i);
        }
        document = Files.exists(DOCUMENT) ? Files.readString(DOCUMENT) : null;

        calls();
        graphs();
        contraction();
        recordIsMade();
        recordStays();
        recordAndNoArborescence();
        limits();
        prices();
        text();
        faults();
        changes();
        undoing();
        severalErrors();
        noneIsNoError();
        errorsChangeNothing();
        newObject();
        changesOfTheGraph();
        addRandom();
        questionsAboutTheGraph();
        undo();
        callsOfTheText();
        record();
        cheapest();
        groups();
        alternatives();
        secondBestAndNecessary();
        limited();
        priced();
        counts();
        slots();
        allAreNamed();
        System.out.println(wrong == 0 ? "the boundary cases hold" : wrong + " wrong answers");
        if (wrong != 0) {
            System.exit(1);
        }
    }

    // ---- What it is, and the terms

    private static void calls() {
        says(TERMS, "An object is used for at most 512 calls after it has been made");
        run("509 times nodes() = 5; begin(2, 1) = 5; addArc(1, 0, 3) = 0; cost() = 3");
        run("511 times cost() = NO_ARBORESCENCE; runs() = 511");
        run("begin(2, 0); addArc(0, 1, 3); cost(); 508 times setLimit(0, 0); reuses() = 508");
        run("504 times setLimit(0, 3); undo() = 7; undo() = 6; undo() = 5; undo() = 4; undo() = 3; undo() = 2;"
                + " undo() = 1; undo() = 0");
        says(TERMS, "what later calls answer is free");
        // Free, but there must be an answer.
        runOn("600 times cost(); 600 times addArc(0, 1, 1); 600 times undo(); 600 times write(50); 600 times load()");
    }

    private static void graphs() {
        says(TERMS, "There are N nodes, numbered from 0, with N from 2 to 8 (5 at first), one of which is the root "
                + "(0 at first).");
        run("nodes() = 5; root() = 0; limit(0) = 7; limit(4) = 7; limit(5) = BAD_NODE; limit(-1) = BAD_NODE");
        run("begin(2, 1) = 5; nodes() = 2; root() = 1; limit(1) = 7; limit(2) = BAD_NODE");
        run("begin(8, 7) = 5; nodes() = 8; root() = 7; limit(7) = 7; limit(8) = BAD_NODE");

        says(TERMS, "There are at most 32 arcs, numbered from 0 in the order in which they were added (none at first).");
        run("arcs() = 0; arc(0, 0) = BAD_ARC; addArc(0, 1, 20) = 0; addArc(4, 3, 21) = 1; arc(0, 2) = 20;"
                + " arc(1, 2) = 21; arc(2, 2) = BAD_ARC; arc(-1, 2) = BAD_ARC");
        run("31 times addArc(0, 1, 1); addArc(1, 2, 9) = 31; arcs() = 32; arc(31, 2) = 9; arc(32, 2) = BAD_ARC;"
                + " addArc(0, 1, 1) = FULL; addRandom(1, 1) = FULL; arcs() = 32; removeArc(31) = 31;"
                + " addArc(3, 2, 8) = 31; addArc(3, 2, 8) = FULL; arcs() = 32");

        says(TERMS, "An arc leads from a node, its tail, to a different node, its head, and has a cost from 0 to 99.");
        run("addArc(0, 4, 0) = 0; arc(0, 0) = 0; arc(0, 1) = 4; arc(0, 2) = 0;"
                + " addArc(4, 0, 99) = 1; arc(1, 0) = 4; arc(1, 1) = 0; arc(1, 2) = 99");
        run("addArc(0, 0, 5) = BAD_NODE; addArc(4, 4, 5) = BAD_NODE; addArc(0, 4, 100) = BAD_VALUE;"
                + " addArc(0, 4, -1) = BAD_VALUE; arcs() = 0");

        says(TERMS, "Several arcs may have the same tail and head.");
        run("begin(2, 0); addArc(0, 1, 5) = 0; addArc(0, 1, 5) = 1; arborescences() = 2; enteringArc(1) = 0;"
                + " removeArc(0) = 1; enteringArc(1) = 0; arborescences() = 1");

        says(TERMS, "each node other than the root is the head of exactly one arc, the root is the head of none, and "
                + "each node can be reached from the root");
        run("begin(3, 0); addArc(0, 1, 9); addArc(1, 0, 0); addArc(1, 2, 9); addArc(2, 1, 0); cost() = 18;"
                + " arborescences() = 1; arborescencesWith(1) = 0; arborescencesWith(3) = 0; limitedCost() = 18;"
                + " enteringArc(0) = NONE; enteringArc(1) = 0; enteringArc(2) = 2");
        run("begin(3, 0); addArc(1, 2, 1); addArc(2, 1, 1); addArc(1, 0, 1); cost() = NO_ARBORESCENCE;"
                + " arborescences() = 0; limitedCost() = NO_ARBORESCENCE; priceBound(1, 1) = NO_ARBORESCENCE");
        run("begin(3, 0); addArc(0, 1, 1); cost() = NO_ARBORESCENCE; arborescences() = 0;"
                + " limitedCost() = NO_ARBORESCENCE");
    }

    private static void contraction() {
        says(TERMS, "an arc enters a group if its head is in the group and its tail is not");
        // Group 4 has the nodes 1 and 2 and the dual value 7: arcs inside it and out of it do not pay it.
        run(CYCLE + "group(4, 0) = 6; group(4, 1) = 7; reducedCost(1) = 0; reducedCost(2) = 0; reducedCost(3) = 0;"
                + " addArc(1, 3, 99); reducedCost(5) = 95; addArc(2, 0, 50); reducedCost(6) = 50; addArc(3, 1, 99);"
                + " reducedCost(7) = 89; addArc(1, 2, 99); reducedCost(8) = 97");

        says(TERMS, "The reduced cost of an arc is its cost minus the sum of the dual values of all groups (on top or not) "
                + "that it enters.");
        // Into node 1 by three groups, one inside the other; into node 3 by the outer one and its own.
        run("begin(4, 0); addArc(1, 2, 1); addArc(2, 1, 1); addArc(3, 1, 4); addArc(2, 3, 2); addArc(0, 3, 20);"
                + " addArc(0, 1, 99); groups() = 6; group(1, 1) = 1; group(3, 1) = 2; group(4, 1) = 3; group(5, 1) = 18;"
                + " reducedCost(5) = 77; reducedCost(4) = 0; reducedCost(2) = 0; reducedCost(3) = 0; group(4, 2) = 5");

        says(TERMS, "A group that has not become a part of another one is on top.");
        run(CYCLE + "group(0, 2) = NONE; group(1, 2) = 4; group(2, 2) = 4; group(3, 2) = NONE; group(4, 2) = NONE");

        says(TERMS, "At first each node forms a group of its own, with the number of the node.");
        run("begin(2, 0); addArc(0, 1, 3); groups() = 2; group(0, 0) = 1; group(1, 0) = 2; group(2, 0) = NONE");
        run(star(8) + "groups() = 8; group(0, 0) = 1; group(7, 0) = 128; group(8, 0) = NONE");

        says(TERMS, "All groups that are formed are numbered; a new group gets the next number.");
        String nested = "begin(8, 0); addArc(2, 1, 0); addArc(1, 2, 0); addArc(3, 1, 1); addArc(1, 3, 0);"
                + " addArc(4, 1, 2); addArc(1, 4, 0); addArc(5, 1, 3); addArc(1, 5, 0); addArc(6, 1, 4);"
                + " addArc(1, 6, 0); addArc(7, 1, 5); addArc(1, 7, 0); addArc(0, 1, 99); ";
        run(nested + "groups() = 14; group(8, 0) = 6; group(9, 0) = 14; group(10, 0) = 30; group(11, 0) = 62;"
                + " group(12, 0) = 126; group(13, 0) = 254; group(14, 0) = NONE; group(8, 1) = 1; group(12, 1) = 1;"
                + " group(13, 1) = 94; group(1, 2) = 8; group(2, 2) = 8; group(3, 2) = 9; group(7, 2) = 13;"
                + " group(8, 2) = 9; group(12, 2) = 13; group(13, 2) = NONE; group(0, 2) = NONE");

        // A group that has node 0 is a part as a whole.
        run("begin(4, 3); addArc(1, 0, 1); addArc(0, 1, 1); addArc(2, 1, 5); addArc(0, 2, 1); addArc(3, 2, 9);"
                + " group(4, 0) = 3; group(5, 0) = 7; group(0, 2) = 4; group(1, 2) = 4; group(2, 2) = 5; group(4, 2) = 5;"
                + " group(5, 2) = NONE; group(5, 1) = 8; cost() = 15");

        says(TERMS, "the part that contains the head of this arc is entered by this arc, too, and each other part is "
                + "entered by its own selected arc");
        run(nested + "cost() = 99; enteringArc(0) = NONE; enteringArc(1) = 12; enteringArc(2) = 1; enteringArc(3) = 3;"
                + " enteringArc(4) = 5; enteringArc(5) = 7; enteringArc(6) = 9; enteringArc(7) = 11; outDegree(1) = 6");
        // Node 1 is deep inside, and the arc enters the outer part.
        run("begin(4, 0); addArc(1, 2, 1); addArc(2, 1, 1); addArc(3, 1, 4); addArc(2, 3, 2); addArc(0, 3, 20);"
                + " enteringArc(3) = 4; enteringArc(1) = 2; enteringArc(2) = 0; cost() = 25");

        says(TERMS, "of these groups the one with the lowest node is taken");
        run("begin(5, 0); addArc(2, 1, 1); addArc(1, 2, 1); addArc(4, 3, 1); addArc(3, 4, 1); addArc(0, 1, 9);"
                + " addArc(0, 3, 9); group(5, 0) = 6; group(6, 0) = 24");
        // Group 6 has the number behind node 4, but the lower node.
        run("begin(6, 5); addArc(2, 0, 1); addArc(4, 1, 1); addArc(3, 2, 1); addArc(2, 3, 1); addArc(0, 2, 5);"
                + " addArc(1, 4, 1); addArc(5, 0, 50); addArc(5, 1, 60); group(6, 0) = 12; group(7, 0) = 13;"
                + " group(8, 0) = 18; groups() = 9; cost() = 117");

        says(TERMS, "the one with the least reduced cost becomes its selected arc; of several, the one with the lowest "
                + "number");
        run("begin(2, 0); addArc(0, 1, 5); addArc(0, 1, 5); enteringArc(1) = 0");
        run("begin(2, 0); addArc(0, 1, 6); addArc(0, 1, 5); enteringArc(1) = 1");
        String pair = "begin(3, 0); addArc(2, 1, 3); addArc(1, 2, 1); ";
        run(pair + "addArc(0, 2, 8); addArc(0, 1, 10); group(3, 1) = 7; enteringArc(2) = 2; enteringArc(1) = 0");
        run(pair + "addArc(0, 1, 10); addArc(0, 2, 8); group(3, 1) = 7; enteringArc(1) = 2; enteringArc(2) = 1");
        run(pair + "addArc(0, 2, 9); addArc(0, 1, 10); group(3, 1) = 7; enteringArc(1) = 3; enteringArc(2) = 1");

        says(TERMS, "Each group has a dual value, 0 at first, and each group other than that of the root may have a "
                + "selected arc.");
        run("begin(2, 0); addArc(0, 1, 5); addArc(1, 0, 6); cost() = 5; group(0, 1) = 0; group(1, 1) = 5; setRoot(1);"
                + " cost() = 6; group(0, 1) = 6; group(1, 1) = 0; reducedCost(0) = 5; reducedCost(1) = 0");
        // Nodes 0 and 1 form a group, and none when it is contracted with the root 0.
        run("begin(3, 2); addArc(1, 0, 1); addArc(0, 1, 2); addArc(2, 1, 9); groups() = 4; group(3, 0) = 3; group(3, 1) = 7;"
                + " group(0, 1) = 1; group(0, 2) = 3; group(1, 2) = 3; cost() = 10; enteringArc(0) = 0; enteringArc(1) = 2;"
                + " enteringArc(2) = NONE; addArc(0, 2, 4); setRoot(0); groups() = 3; cost() = 6; enteringArc(1) = 1;"
                + " enteringArc(0) = NONE; group(0, 1) = 0; reducedCost(2) = 7; group(3, 0) = NONE; setRoot(2); groups() = 4; cost() = 10; reducedCost(0) = 0");

        says(TERMS, "If no arc enters it, there is no arborescence, and this is the end.");
        run("cost() = NO_ARBORESCENCE; isRecorded() = 0; runs() = 1");
        run("begin(2, 0); addArc(1, 0, 1); cost() = NO_ARBORESCENCE; isRecorded() = 0");
        run("begin(4, 0); addArc(0, 3, 1); addArc(1, 2, 1); addArc(2, 1, 1); addArc(2, 3, 0);"
                + " cost() = NO_ARBORESCENCE; isRecorded() = 0");

        says(TERMS, "The dual value of the group becomes this least reduced cost (so the reduced cost of the selected "
                + "arc is 0 then).");
        run("begin(3, 0); addArc(0, 1, 0); addArc(0, 2, 99); group(0, 1) = 0; group(1, 1) = 0; group(2, 1) = 99;"
                + " reducedCost(0) = 0; reducedCost(1) = 0");

        says(TERMS, "(It is a cheapest one, and its cost is the sum of all dual values.)");
        sumOfDuals(nested);
        sumOfDuals(CYCLE);
        sumOfDuals(CYCLE + "setCost(0, 0); isRecorded() = 1; group(1, 1) = -7");
        sumOfDuals(FULL_GRAPH);
    }

    private static void sumOfDuals(String state) {
        ArborescenceFinder x = made(state);
        int sum = 0;
        for (int g = 0; g < x.groups(); g++) {
            sum += x.group(g, 1);
        }
        due("the sum of the dual values after " + state, sum, x.cost());
    }

    private static void recordIsMade() {
        says(TERMS, "It is dropped when a change makes it useless, and made anew by a contraction when a method needs it");
        String graph = "begin(2, 0); addArc(0, 1, 3); ";
        for (String call : NEED_THE_RECORD) {
            run(graph + "isRecorded() = 0; runs() = 0; " + call + "; isRecorded() = 1; runs() = 1; " + call
                    + "; runs() = 1; setRoot(0); isRecorded() = 0; runs() = 1; " + call + "; isRecorded() = 1; runs() = 2");
        }
        for (String call : NEED_NO_RECORD) {
            run(graph + call + "; isRecorded() = 0; runs() = 0; cost(); " + call + "; isRecorded() = 1; runs() = 1");
        }

        says(TERMS, "(the methods under \"The cheapest arborescence\" and \"Slacks and alternatives\" below; such a "
                + "contraction is a run)");
        // Such a one makes the record. What a method finds out beside it is no run: in example 1 of the document
        // slack(4) and secondBest(0) come behind cost(), and runs() is 1.
        for (int arc = 0; arc < 5; arc++) {
            for (String name : new String[] {"costWithout", "costWith", "slack"}) {
                String call = name + "(" + arc + ")";
                run(CYCLE + "runs() = 1; " + call + "; runs() = 1; setRoot(0); " + call + "; runs() = 2; isRecorded() = 1; "
                        + call + "; runs() = 2; cost() = 16; runs() = 2");
            }
        }
        for (String call : new String[] {"secondBest(0) = 19", "secondBest(1) = 0", "necessary(0) = 0", "necessary(2) = 3",
                "necessary(3) = NONE", "group(99, 0) = NONE", "enteringArc(0) = NONE"}) {
            run(CYCLE + "runs() = 1; " + call + "; runs() = 1; setRoot(0); " + call + "; runs() = 2; isRecorded() = 1; "
                    + call + "; runs() = 2; cost() = 16; runs() = 2");
        }
    }

    private static void recordStays() {
        says(TERMS, "an arc is added, and its reduced cost is at least 0;");
        run(CYCLE + "addArc(3, 2, 9); reducedCost(5) = 0" + STAYS);
        run(CYCLE + "addArc(3, 2, 8)" + DROPPED);
        run(CYCLE + "addArc(2, 1, 3); reducedCost(5) = 0" + STAYS);
        run(CYCLE + "addArc(2, 1, 2)" + DROPPED);
        run(CYCLE + "addArc(0, 3, 4)" + STAYS);
        run(CYCLE + "addArc(0, 3, 3)" + DROPPED);
        run(CYCLE + "addArc(1, 0, 0)" + STAYS);

        says(TERMS, "an arc is removed that is not in the arborescence;");
        run(CYCLE + "removeArc(4)" + STAYS);
        run(CYCLE + "removeArc(2)" + STAYS + "; enteringArc(1) = 0; enteringArc(2) = 1; enteringArc(3) = 2");
        run("begin(3, 2); addArc(2, 1, 9); addArc(2, 1, 3); addArc(2, 0, 4); enteringArc(0) = 2; removeArc(0)" + STAYS
                + "; enteringArc(0) = 1; enteringArc(1) = 0; cost() = 7");
        run(star(8) + "addArc(1, 7, 1) = 7; cost() = 7; removeArc(7)" + STAYS + "; enteringArc(7) = 6");
        run(CYCLE + "removeArc(0)" + DROPPED);
        run(CYCLE + "removeArc(1)" + DROPPED);
        run(CYCLE + "removeArc(3)" + DROPPED);

        says(TERMS, "the cost of an arc that is not in the arborescence is set, and its reduced cost is at least 0 then;");
        run(CYCLE + "setCost(4, 9); reducedCost(4) = 0" + STAYS + "; group(2, 1) = 2; group(4, 1) = 7");
        run(CYCLE + "setCost(4, 8)" + DROPPED);
        run(CYCLE + "setCost(4, 99)" + STAYS);
        run(CYCLE + "setCost(2, 2)" + DROPPED);

        says(TERMS, "then the dual value of the group that consists of its head alone changes by the new cost minus the "
                + "old one, and the record stays if the reduced costs of all other arcs with this head are at least 0 then;");
        run(CYCLE + "setCost(1, 5); group(2, 1) = 5; reducedCost(4) = 0; reducedCost(1) = 0" + STAYS);
        run(CYCLE + "setCost(1, 6)" + DROPPED);
        run(CYCLE + "setCost(0, 11)" + DROPPED);
        run(CYCLE + "setCost(3, 99); group(3, 1) = 99" + STAYS);
        run(CYCLE + "setCost(3, 0); group(3, 1) = 0" + STAYS);
        // The second of two others is the one that counts.
        String two = "begin(2, 0); addArc(0, 1, 3); addArc(0, 1, 9); addArc(0, 1, 7); cost() = 3; ";
        run(two + "setCost(0, 7); reducedCost(2) = 0" + STAYS + "; enteringArc(1) = 0; cost() = 7");
        run(two + "setCost(0, 8)" + DROPPED + "; enteringArc(1) = 2; cost() = 7");
        String first = "begin(2, 1); addArc(1, 0, 9); addArc(1, 0, 3); cost() = 3; ";
        run(first + "setCost(1, 9); group(0, 1) = 9; reducedCost(0) = 0" + STAYS + "; enteringArc(0) = 1");
        run(first + "setCost(1, 10)" + DROPPED + "; enteringArc(0) = 0");
        // An arc that is gone does not count.
        run("begin(2, 0); addArc(0, 1, 3); addArc(0, 1, 4); cost() = 3; removeArc(1); setCost(0, 9); isRecorded() = 1;"
                + " reuses() = 2; cost() = 9");
        run("begin(2, 0); addArc(0, 1, 3); 31 times addArc(0, 1, 4); cost() = 3; setCost(0, 4)" + STAYS);
        run("begin(2, 0); addArc(0, 1, 3); 31 times addArc(0, 1, 4); cost() = 3; setCost(0, 5)" + DROPPED);

        says(TERMS, "the limit of a node is set.");
        run(CYCLE + "setLimit(0, 0)" + STAYS + "; cost() = 16");
        run(CYCLE + "setLimit(3, 7)" + STAYS);

        says(TERMS, "it stays in these cases, and is dropped in all others");
        run(CYCLE + "begin(4, 0); isRecorded() = 0; reuses() = 0");
        run(CYCLE + "setRoot(0)" + DROPPED);
        run(CYCLE + "addRandom(1, 5)" + DROPPED);
        run(CYCLE + "text \"2/0,0>1:3\"; load()" + DROPPED);

        says(TERMS, "A change (also one that makes nothing different) by which the record stays is a reuse.");
        run(CYCLE + "setCost(0, 10)" + STAYS);
        run(CYCLE + "setCost(4, 12)" + STAYS);
        run(CYCLE + "setLimit(0, 7)" + STAYS);
        run(CYCLE + "setLimit(0, 7); setLimit(0, 7); setCost(0, 10); reuses() = 3; undo(); undo(); reuses() = 3");
        run("begin(2, 0); addArc(0, 1, 3); setLimit(0, 7); setCost(0, 3); setCost(0, 2); addArc(0, 1, 9); removeArc(1);"
                + " reuses() = 0");

        says(TERMS, "Dual values of single nodes can become negative by this.");
        run(CYCLE + "setCost(0, 6); group(1, 1) = -1; reducedCost(0) = 0; reducedCost(2) = 4; cost() = 12" + STAYS);
        run(CYCLE + "setCost(0, 0); group(1, 1) = -7; group(4, 1) = 7; cost() = 6; addArc(3, 1, 0); isRecorded() = 1;"
                + " reducedCost(5) = 0");
        run(CYCLE + "setCost(0, 1); group(1, 1) = -6; addArc(3, 1, 0); isRecorded() = 0");
    }

    private static void recordAndNoArborescence() {
        says(TERMS, "If there is no arborescence, nothing is recorded, and each method that needs the record tries again; "
                + "this is a run, too.");
        String graph = "begin(2, 0); addArc(1, 0, 3); ";
        for (String call : NEED_THE_RECORD) {
            run(graph + call + " = NO_ARBORESCENCE; isRecorded() = 0; runs() = 1; " + call
                    + " = NO_ARBORESCENCE; isRecorded() = 0; runs() = 2; addArc(0, 1, 2); " + call
                    + "; isRecorded() = 1; runs() = 3; " + call + "; runs() = 3");
        }
        for (String call : NEED_NO_RECORD) {
            run(graph + call + "; isRecorded() = 0; runs() = 0");
        }
    }

    private static void limits() {
        says(TERMS, "Each node has a limit from 0 to 7 (7 at first).");
        run("begin(8, 0); limit(0) = 7; limit(7) = 7; setLimit(0, 0) = 7; limit(0) = 0; setLimit(0, 7) = 0; limit(0) = 7;"
                + " setLimit(0, 8) = BAD_VALUE; setLimit(0, -1) = BAD_VALUE; limit(0) = 7");

        says(TERMS, "An arborescence is limited if each node is the tail of at most as many of its arcs as its limit says.");
        run(star(8) + "limitedCost() = 7; setLimit(0, 6); limitedCost() = NO_ARBORESCENCE; addArc(1, 2, 50);"
                + " limitedCost() = 56; setLimit(1, 1); limitedCost() = 56; setLimit(1, 0); limitedCost() = NO_ARBORESCENCE;"
                + " setLimit(1, 1); setLimit(7, 0); limitedCost() = 56; setLimit(0, 0); limitedCost() = NO_ARBORESCENCE");

        says(TERMS, "The best limited arborescence is the one with the least cost; of several, the one for which the list "
                + "of its arcs, in ascending order of their heads, is lexicographically smallest.");
        String equal = "begin(3, 0); addArc(1, 2, 4); addArc(0, 2, 4); addArc(2, 1, 4); addArc(0, 1, 4); setLimit(0, 1); ";
        run(equal + "limitedCost() = 8; limitedArc(1) = 2; limitedArc(2) = 1");
        run(equal + "setCost(3, 3); limitedCost() = 7; limitedArc(1) = 3; limitedArc(2) = 0");
        // Of the arborescences 0 2, 0 3 and 1 2 the last is the cheapest.
        run("begin(3, 0); addArc(0, 1, 9); addArc(2, 1, 1); addArc(0, 2, 2); addArc(1, 2, 1); limitedCost() = 3;"
                + " limitedArc(1) = 1; limitedArc(2) = 2");
        // Without arc 2, which would close a cycle with arc 0, arc 4 must be taken.
        run("begin(4, 0); addArc(2, 1, 1); addArc(0, 2, 5); addArc(1, 2, 1); addArc(0, 3, 1); addArc(1, 3, 9); setLimit(0, 1);"
                + " limitedCost() = 15; limitedArc(1) = 0; limitedArc(2) = 1; limitedArc(3) = 4");
        run("begin(3, 2); addArc(2, 0, 5); addArc(1, 0, 2); addArc(2, 1, 4); addArc(0, 1, 1); limitedCost() = 6;"
                + " limitedArc(0) = 0; limitedArc(1) = 3; limitedArc(2) = NONE; setLimit(0, 0); limitedCost() = 6;"
                + " limitedArc(0) = 1; limitedArc(1) = 2; setLimit(1, 0); limitedCost() = 9; limitedArc(0) = 0; limitedArc(1) = 2");
        run("begin(2, 0); addArc(0, 1, 4); addArc(0, 1, 4); limitedArc(1) = 0; setCost(1, 3); limitedArc(1) = 1");
        // A dearer one that is lexicographically greater comes too late.
        run("begin(2, 0); addArc(0, 1, 3); addArc(0, 1, 4); limitedCost() = 3; limitedArc(1) = 0; setCost(0, 5);"
                + " limitedCost() = 4; limitedArc(1) = 1");
    }

    private static void prices() {
        says(TERMS, "Each node has a price, 0 at first.");
        // In the first round, the priced costs are the costs, and no price is paid for a limit.
        run(star(4) + "setLimit(0, 1); priceBound(1, 20) = 3; price(0, 1, 20) = 20");

        says(TERMS, "the bound of the round is the cost of the arborescence that the contraction finds for the priced costs "
                + "(with the same numbers of arcs), minus the sum, over all nodes, of price times limit");
        run(star(4) + "setLimit(0, 1); priceBound(2, 3) = 9; priceBound(20, 20) = 763");
        run(star(4) + "setLimit(0, 2); priceBound(2, 3) = 6; priceBound(20, 20) = 383");
        // At a price of 2, the arcs 0 and 1 cost the same: the one with the lowest number is found.
        run("begin(3, 0); addArc(0, 2, 1); addArc(1, 2, 3); addArc(0, 1, 1); setLimit(0, 1); price(0, 1, 2) = 2;"
                + " price(0, 2, 2) = 4; price(0, 3, 2) = 4; priceBound(2, 2) = 4; priceBound(3, 2) = 4");

        says(TERMS, "if it is the tail of more arcs of this arborescence than its limit says, its price increases by the "
                + "step; if it is the tail of fewer, its price decreases by the step, but not below 0");
        run(star(4) + "setLimit(0, 2); price(0, 1, 1) = 1; price(0, 20, 20) = 400; price(1, 1, 1) = 0");
        run(star(4) + "setLimit(0, 3); price(0, 20, 20) = 0");
        run(star(4) + "setLimit(0, 4); price(0, 1, 1) = 0; price(0, 20, 20) = 0; priceBound(20, 20) = 3");
        // The price goes up to 10, which is too much for two arcs, and down again.
        String turn = "begin(4, 0); addArc(0, 1, 1); addArc(1, 2, 1); addArc(1, 3, 1); addArc(0, 2, 5); addArc(0, 3, 5);"
                + " setLimit(1, 1); ";
        run(turn + "price(1, 1, 10) = 10; price(1, 2, 10) = 0; price(1, 3, 10) = 10; price(1, 20, 10) = 0");
        // With a step of 3 it rests at 3 + 3, where the node is the tail of none: 6, 3, 6, 3.
        run(turn + "price(1, 1, 3) = 3; price(1, 2, 3) = 6; price(1, 3, 3) = 3; price(1, 4, 3) = 6");
        run("begin(3, 0); addArc(0, 1, 1); addArc(0, 2, 1); addArc(1, 2, 3); setLimit(0, 1); setLimit(1, 1);"
                + " price(0, 1, 3) = 3; price(0, 2, 3) = 3; price(0, 20, 3) = 3; price(1, 20, 3) = 0");

        run("begin(3, 2); addArc(2, 0, 1); addArc(0, 1, 1); addArc(2, 1, 4); setLimit(0, 0); price(0, 1, 2) = 2;"
                + " price(0, 2, 2) = 4; price(0, 3, 2) = 4; price(2, 20, 2) = 0; priceBound(20, 2) = 5; priceBound(1, 2) = 2;"
                + " priceBound(2, 2) = 4");

        says(TERMS, "(These contractions are no runs, and the record does not change.)");
        run(CYCLE + "setLimit(0, 0); priceBound(20, 20); price(0, 20, 20); runs() = 1; isRecorded() = 1; cost() = 16;"
                + " group(4, 1) = 7; enteringArc(1) = 0; reducedCost(4) = 3; runs() = 1");
        run("begin(2, 0); addArc(0, 1, 3); priceBound(20, 20) = 3; runs() = 0; isRecorded() = 0");
    }

    private static void text() {
        says(TERMS, "A graph can be read from a text of at most 300 characters with codes from 32 to 126");
        run("write(32) = 1; write(126) = 2; write(31) = BAD_VALUE; write(127) = BAD_VALUE; 297 times write(50);"
                + " write(50) = 300; write(50) = FULL; wipe() = 300; write(50) = 1");

        says(TERMS, "N, a slash, the root, and then, for each arc, a comma, its tail, the sign >, its head, a colon, and "
                + "its cost");
        fault("2/0", "NONE");
        fault("8/7", "NONE");
        fault("4/0,0>1:7,1>2:12", "NONE");
        run("text \"4/0,0>1:7,1>2:12\"; load() = 2; nodes() = 4; root() = 0; arc(0, 0) = 0; arc(0, 1) = 1; arc(0, 2) = 7;"
                + " arc(1, 0) = 1; arc(1, 1) = 2; arc(1, 2) = 12");
        run("text \"2/1\"; load() = 0; nodes() = 2; root() = 1; arcs() = 0");

        says(TERMS, "There are no blanks.");
        fault(" 2/0", "0");
        fault("2 /0", "1");
        fault("2/ 0", "2");
        fault("2/0 ", "3");
        fault("2/0, 0>1:1", "4");
        fault("2/0,0>1: 1", "8");
        fault("2/0,0>1:1 ", "9");

        says(TERMS, "N and the root are one digit each, tail and head too; the cost has one or two digits, as many as "
                + "possible, but at most two.");
        fault("02/0", "0");
        fault("22/0", "1");
        fault("2/00", "3");
        fault("2/0,00>1:1", "5");
        fault("2/0,0>11:1", "7");
        fault("2/0,0>1:0", "NONE");
        fault("2/0,0>1:99", "NONE");
        fault("2/0,0>1:100", "10");
        fault("2/0,0>1:000", "10");
        run("text \"2/0,0>1:0,0>1:99,0>1:10\"; load() = 3; arc(0, 2) = 0; arc(1, 2) = 99; arc(2, 2) = 10");
        // Two digits are as many as possible, whatever the first one is.
        fault("2/0,0>1:00", "NONE");
        fault("2/0,0>1:05", "NONE");
        fault("2/0,0>1:055", "10");
        fault("2/0,0>1:05,1>0:009", "17");
        run("text \"2/0,0>1:05,1>0:00,0>1:09,0>1:5\"; load() = 4; arc(0, 2) = 5; arc(1, 2) = 0; arc(2, 2) = 9;"
                + " arc(3, 2) = 5; cost() = 5; enteringArc(1) = 0");
    }

    private static void faults() {
        says(TERMS, "The fault of a text is the index, from 0, of the first character that cannot stand at its place");
        String[] wrongSigns = {"x", "2x", "2/x", "2/0x", "2/0,x", "2/0,0x", "2/0,0>x", "2/0,0>1x", "2/0,0>1:x"};
        for (String text : wrongSigns) {
            fault(text, "" + (text.length() - 1));
            fault(text + "/0,0>1:1", "" + (text.length() - 1));
        }
        everySign();
        fault("2/0,0>1:1x", "9");
        fault("2/0,0>1:12x", "10");
        fault("2/0,0>1:-1", "8");
        fault("1/0", "0");
        fault("9/0", "0");
        fault("x/x", "0");

        says(TERMS, "also a digit of a node that does not exist, a head that is the tail, and the comma of a 33rd arc");
        fault("2/2", "2");
        fault("8/8", "2");
        fault("2/0,2>0:1", "4");
        fault("2/0,0>2:1", "6");
        fault("8/0,8>0:1", "4");
        fault("8/0,7>8:1", "6");
        fault("8/0,7>6:1,6>7:1", "NONE");
        fault("2/0,0>0:1", "6");
        fault("2/0,1>1", "6");
        fault("8/7,7>0:1,3>3:1", "12");
        fault("2/0,2>2:1", "4");
        String full = "8/7" + ",0>7:5".repeat(32);
        fault(full, "NONE");
        fault(full + "9", "NONE");
        fault(full + ",", "195");
        fault(full + ",0>7:5", "195");
        fault(full + "9,0>7:5", "196");
        fault(full + "99,", "196");
        fault("8/7" + ",0>7:55".repeat(32), "NONE");
        fault("8/7" + ",0>7:55".repeat(33), "227");
        fault("8/7" + ",0>7:5".repeat(31), "NONE");

        says(TERMS, "or the length of the text if it ends too early");
        String whole = "3/0,0>1:7,1>2:12";
        String[] early = {"", "3", "3/", "3/0,", "3/0,0", "3/0,0>", "3/0,0>1", "3/0,0>1:", "3/0,0>1:7,", "3/0,0>1:7,1",
            "3/0,0>1:7,1>", "3/0,0>1:7,1>2", "3/0,0>1:7,1>2:"};
        for (String text : early) {
            fault(text, "" + text.length());
        }
        for (String text : new String[] {"3/0", "3/0,0>1:7", "3/0,0>1:7,1>2:1", whole}) {
            fault(text, "NONE");
        }
        fault("8/7" + ",0>7:5".repeat(31) + ",", "190");
        fault("8/7" + ",0>7:5".repeat(31) + ",0>7:", "194");
    }

    /** Behind each beginning of a text, every sign, with what could follow it. */
    private static void everySign() {
        String text = "4/2,0>3:7,3>1:12";
        String[] may = {"2345678", "/", "0123", ",", "0123", ">", "123", ":", "0123456789", ",0123456789", "0123", ">", "012",
            ":", "0123456789", "0123456789,"};
        for (int at = 0; at < text.length(); at++) {
            for (char sign = 32; sign <= 126; sign++) {
                // The scripts part their calls by this one; a text below has it.
                if (sign == ';') {
                    continue;
                }
                String begun = text.substring(0, at) + sign;
                if (may[at].indexOf(sign) < 0) {
                    fault(begun, "" + at);
                    fault(begun + text.substring(at), "" + at);
                    fault(begun + text.substring(at + 1), "" + at);
                    fault(begun + text.substring(3), "" + at);
                } else if (at == 2 || at == 8 || at == 14 || at == 15 && sign != ',' || at == 9 && sign != ',') {
                    fault(begun, "NONE");
                } else {
                    fault(begun, "" + (at + 1));
                }
            }
            ArborescenceFinder x = made("text \"" + text.substring(0, at) + "\"; write(59); 9 times write(48)");
            due("fault() of " + text.substring(0, at) + " and the sign 59", x.fault(), at);
        }
    }

    /** The fault of a text, and that it is loaded or not. */
    private static void fault(String text, String want) {
        String load = want.equals("NONE") ? "; load(); undo() = 0" : "; load() = NOT_POSSIBLE; undo() = NOT_POSSIBLE";
        run("text \"" + text + "\"; fault() = " + want + load + "; fault() = " + want + "; wipe() = " + text.length());
    }

    private static void changes() {
        says(TERMS, "The calls that are called changes below can be undone if they reported no error");
        String[] all = {"begin(3, 1)", "addArc(0, 4, 1)", "removeArc(0)", "setCost(0, 9)", "setRoot(3)", "setLimit(0, 1)",
            "addRandom(8, 1)", "load()"};
        String state = "addArc(0, 1, 5); save(0); restore(0); text \"2/0\"; ";
        for (String change : all) {
            run(state + "undo() = NOT_POSSIBLE; " + change + "; undo() = 0; nodes() = 5; root() = 0; arcs() = 1;"
                    + " arc(0, 2) = 5; limit(0) = 7; undo() = NOT_POSSIBLE");
        }
        for (String change : new String[] {"begin(5, 0)", "setCost(0, 5)", "setRoot(0)", "setLimit(0, 7)"}) {
            // It makes (almost) nothing different, and is a change all the same.
            run(state + change + "; undo() = 0; undo() = NOT_POSSIBLE");
        }
        String[] none = {"nodes()", "root()", "arcs()", "arc(0, 0)", "limit(0)", "undo()", "write(50)", "wipe()", "fault()",
            "isRecorded()", "runs()", "reuses()", "limitedCost()", "limitedArc(0)", "priceBound(1, 1)", "price(0, 1, 1)",
            "arborescences()", "arborescencesWith(0)", "save(1)", "restore(0)"};
        for (String call : none) {
            run(state + call + "; undo() = NOT_POSSIBLE");
        }
        for (String call : NEED_THE_RECORD) {
            run(state + call + "; undo() = NOT_POSSIBLE");
            run("begin(2, 0); addArc(0, 1, 4); " + call + "; undo() = 1; undo() = 0; undo() = NOT_POSSIBLE");
        }

        says(TERMS, "at most 8 of them are kept for that, and when one more is made, the oldest one that is kept can be "
                + "undone no longer");
        String eightUndone = "; undo() = 7; undo() = 6; undo() = 5; undo() = 4; undo() = 3; undo() = 2; undo() = 1;"
                + " undo() = 0; undo() = NOT_POSSIBLE; ";
        run("setLimit(1, 1); setLimit(1, 2); setLimit(1, 3); setLimit(1, 4); setLimit(1, 5); setLimit(1, 6); setLimit(1, 7);"
                + " setLimit(1, 0)" + eightUndone + "limit(1) = 7");
        run("7 times addArc(0, 1, 5); undo() = 6; addArc(0, 1, 5); addArc(0, 1, 5)" + eightUndone + "arcs() = 0");
        run("9 times addArc(0, 1, 5)" + eightUndone + "arcs() = 1");
        run("10 times addArc(0, 1, 5)" + eightUndone + "arcs() = 2");
        run("8 times addArc(0, 1, 5)" + eightUndone + "arcs() = 0; 9 times addArc(0, 1, 5)" + eightUndone + "arcs() = 1");
        run("8 times addArc(0, 1, 5); undo() = 7; undo() = 6; undo() = 5; 4 times addArc(0, 1, 6)" + eightUndone
                + "arcs() = 1; arc(0, 2) = 5");
        run("31 times addArc(0, 1, 5)" + eightUndone + "arcs() = 23");
        // A refused change takes no place, and gives none up.
        run("8 times addArc(0, 1, 5); addArc(0, 0, 5) = BAD_NODE; load() = NOT_POSSIBLE; setCost(0, 100) = BAD_VALUE"
                + eightUndone + "arcs() = 0");
        // Nor does a call that is no change.
        run("8 times addArc(0, 1, 5); cost(); save(0); write(50); limitedCost()" + eightUndone + "arcs() = 0");
        // The costs tell which ones were undone, in which order.
        run("addArc(0, 1, 0); setCost(0, 1); setCost(0, 2); setCost(0, 3); setCost(0, 4); setCost(0, 5); setCost(0, 6);"
                + " setCost(0, 7); setCost(0, 8); setCost(0, 9); undo() = 7; arc(0, 2) = 8; undo() = 6; arc(0, 2) = 7;"
                + " undo() = 5; arc(0, 2) = 6; undo() = 4; arc(0, 2) = 5; undo() = 3; arc(0, 2) = 4; undo() = 2; arc(0, 2) = 3;"
                + " undo() = 1; arc(0, 2) = 2; undo() = 0; arc(0, 2) = 1; undo() = NOT_POSSIBLE; arc(0, 2) = 1");
    }

    private static void undoing() {
        says(TERMS, "Undoing restores the graph, the limits, and the record or that there was none; the counts of runs and "
                + "reuses, and the text, stay.");
        // The record comes back with its dual values and its arcs.
        run(CYCLE + "removeArc(3); cost() = NO_ARBORESCENCE; undo() = 6; isRecorded() = 1; cost() = 16; enteringArc(3) = 3;"
                + " group(4, 1) = 7; runs() = 2; reuses() = 0");
        run(CYCLE + "setCost(1, 5); group(2, 1) = 5; undo(); group(2, 1) = 2; arc(1, 2) = 2; reuses() = 1; runs() = 1");
        run(CYCLE + "removeArc(2); enteringArc(3) = 2; undo(); enteringArc(3) = 3; arcs() = 5; arc(2, 0) = 2; reuses() = 1");
        // There was none when the change was made, though there is one now.
        run("begin(2, 0); addArc(0, 1, 3); setLimit(0, 1); cost() = 3; undo() = 2; isRecorded() = 0; limit(0) = 7; runs() = 1");
        // A record that was dropped and made anew gives way to the old one.
        run("begin(2, 0); addArc(0, 1, 5); addArc(0, 1, 5); enteringArc(1) = 0; setCost(1, 4); isRecorded() = 0;"
                + " enteringArc(1) = 1; undo(); isRecorded() = 1; enteringArc(1) = 0; runs() = 2");
        run("begin(3, 2); setLimit(0, 1); setLimit(2, 0); begin(8, 0); undo() = 3; nodes() = 3; root() = 2; limit(0) = 1;"
                + " limit(2) = 0; limit(3) = BAD_NODE");
        run("write(50); setLimit(0, 1); write(47); write(49); undo() = 0; fault() = NONE; load() = 0; undo() = 0; nodes() = 5;"
                + " fault() = NONE; wipe() = 3");
        run("text \"2/0\"; setLimit(0, 1); wipe() = 3; undo() = 0; fault() = 0; wipe() = 0");
        // A slot is not part of what is undone.
        run("setLimit(0, 1); save(0); undo(); limit(0) = 7; restore(0); limit(0) = 1");
    }

    private static void severalErrors() {
        says(TERMS, "If several errors apply to a call, the one that is named first in the description of the result is "
                + "reported.");
        refused("begin(1, 1) = BAD_VALUE");
        refused("begin(9, 9) = BAD_VALUE");
        refused("begin(1, -1) = BAD_VALUE");
        refused("addArc(0, 0, 100) = BAD_NODE");
        refused("addArc(0, 8, -1) = BAD_NODE");
        refused("addArc(-1, 0, 100) = BAD_NODE");
        refused("addArc(0, 0, 1) = BAD_NODE", FULL_GRAPH);
        refused("addArc(0, 1, 100) = BAD_VALUE", FULL_GRAPH);
        refused("setCost(-1, -1) = BAD_ARC");
        refused("setCost(32, 100) = BAD_ARC");
        refused("setLimit(8, 8) = BAD_NODE");
        refused("setLimit(-1, -1) = BAD_NODE");
        refused("addRandom(0, -1) = BAD_VALUE");
        refused("addRandom(9, 1) = BAD_VALUE", FULL_GRAPH);
        refused("addRandom(1, -1) = BAD_VALUE", FULL_GRAPH);
        refused("arc(-1, -1) = BAD_ARC");
        refused("arc(32, 3) = BAD_ARC");
        refused("write(127) = BAD_VALUE", "300 times write(50)");
        refused("write(31) = BAD_VALUE", "300 times write(50)");
        // In a graph without an arborescence, no run comes before these.
        refused("enteringArc(2) = BAD_NODE", BARREN);
        refused("outDegree(2) = BAD_NODE", BARREN);
        refused("group(-1, 0) = BAD_VALUE", BARREN);
        refused("group(0, 3) = BAD_VALUE", BARREN);
        refused("reducedCost(1) = BAD_ARC", BARREN);
        refused("costWithout(1) = BAD_ARC", BARREN);
        refused("costWith(1) = BAD_ARC", BARREN);
        refused("slack(1) = BAD_ARC", BARREN);
        refused("secondBest(2) = BAD_VALUE", BARREN);
        refused("necessary(-1) = BAD_VALUE", BARREN);
        refused("limitedArc(2) = BAD_NODE", BARREN);
        refused("priceBound(0, 1) = BAD_VALUE", BARREN);
        refused("price(2, 0, 0) = BAD_NODE", BARREN);
        refused("price(1, 21, 1) = BAD_VALUE", BARREN);
        refused("price(1, 1, 21) = BAD_VALUE", BARREN);
        refused("restore(2) = BAD_VALUE", NEW);
        refused("restore(-1) = BAD_VALUE", NEW);
    }

    private static void noneIsNoError() {
        says(TERMS, "NONE is reported only if no error applies.");
        refused("group(99, 3) = BAD_VALUE");
        refused("group(99, -1) = BAD_VALUE");
        refusedWithRun("enteringArc(1) = NO_ARBORESCENCE", BARREN);
        refusedWithRun("group(99, 0) = NO_ARBORESCENCE", BARREN);
        refusedWithRun("costWithout(0) = NO_ARBORESCENCE", BARREN);
        refusedWithRun("costWith(0) = NO_ARBORESCENCE", BARREN);
        refusedWithRun("slack(0) = NO_ARBORESCENCE", BARREN);
        refusedWithRun("secondBest(1) = NO_ARBORESCENCE", BARREN);
        refusedWithRun("necessary(99) = NO_ARBORESCENCE", BARREN);
        refused("limitedArc(1) = NO_ARBORESCENCE", BARREN);
        run("begin(2, 0); addArc(0, 1, 3); setLimit(0, 0); limitedArc(0) = NO_ARBORESCENCE; enteringArc(0) = NONE");
        run("begin(2, 0); addArc(0, 1, 3); secondBest(2) = BAD_VALUE; secondBest(1) = NONE; necessary(-1) = BAD_VALUE;"
                + " necessary(1) = NONE");
        // NONE is not an error: the record is made.
        String[] none = {"enteringArc(0)", "group(2, 0)", "costWithout(0)", "costWith(1)", "slack(0)", "secondBest(0)",
            "necessary(1)", "group(0, 2)"};
        for (String call : none) {
            run("begin(2, 0); addArc(0, 1, 3); addArc(1, 0, 3); " + call + " = NONE; isRecorded() = 1; runs() = 1");
        }
    }

    private static void errorsChangeNothing() {
        says(TERMS, "A call that reports an error changes nothing, except that a run is counted before NO_ARBORESCENCE is "
                + "reported by a method that needs the record.");
        for (String call : NEED_THE_RECORD) {
            refusedWithRun(call + " = NO_ARBORESCENCE", BARREN);
        }
        for (String call : new String[] {"limitedCost()", "limitedArc(0)", "priceBound(2, 2)", "price(0, 2, 2)"}) {
            refused(call + " = NO_ARBORESCENCE", BARREN);
            refused(call + " = NO_ARBORESCENCE", NEW);
        }
        refused("addArc(0, 1, 1) = FULL", FULL_GRAPH);
        refused("addRandom(1, 1) = FULL", FULL_GRAPH);
        refused("load() = NOT_POSSIBLE", BARREN);
        refused("load() = NOT_POSSIBLE", NEW);
        refused("undo() = NOT_POSSIBLE", NEW);
        refused("restore(0) = NOT_POSSIBLE", NEW);
        refused("restore(0) = NOT_POSSIBLE", RICH);
        refused("restore(1) = NOT_POSSIBLE", BARREN);
        refused("write(50) = FULL", "300 times write(50)");
        // The best limited arborescence is found again after an error, too.
        run("begin(2, 0); addArc(0, 1, 3); limitedCost() = 3; setCost(0, 100) = BAD_VALUE; limitedCost() = 3;"
                + " setCost(0, 9); limitedCost() = 9");
    }

    // ---- The promises

    private static void newObject() {
        says(1, "Creates a finder with 5 nodes, the root 0 and no arcs; there is no record, the text is empty, nothing is "
                + "saved, and there is nothing to undo.");
        run("nodes() = 5; root() = 0; arcs() = 0; isRecorded() = 0; runs() = 0; reuses() = 0; fault() = 0; wipe() = 0;"
                + " restore(0) = NOT_POSSIBLE; restore(1) = NOT_POSSIBLE; undo() = NOT_POSSIBLE; load() = NOT_POSSIBLE");
        run("limit(0) = 7; limit(1) = 7; limit(2) = 7; limit(3) = 7; limit(4) = 7; limit(5) = BAD_NODE");
    }

    private static void changesOfTheGraph() {
        says(2, "`nodes`: N, 2 to 8");
        run("begin(2, 0) = 5; nodes() = 2; begin(8, 0) = 2; nodes() = 8; begin(5, 0) = 8");
        says(2, "`root`: the root, 0 to N - 1");
        run("begin(2, 0) = 5; root() = 0; begin(2, 1) = 2; root() = 1; begin(8, 7) = 2; root() = 7");
        // The new N counts, not the one before.
        run("begin(8, 6) = 5; begin(3, 3) = BAD_NODE; begin(3, 2) = 8");
        says(2, "Begins with a new graph without arcs; all limits are 7. This is a change.");
        run("begin(8, 1); addArc(1, 2, 3); setLimit(0, 0); setLimit(7, 1); begin(8, 1) = 8; arcs() = 0; limit(0) = 7;"
                + " limit(7) = 7; undo() = 4; arcs() = 1; limit(0) = 0; limit(7) = 1");
        run("begin(8, 1); setLimit(7, 1); begin(2, 0); begin(8, 0); limit(7) = 7");
        says(2, "Returns the previous N; BAD_VALUE if nodes is out of range; BAD_NODE.");
        refused("begin(1, 0) = BAD_VALUE");
        refused("begin(9, 0) = BAD_VALUE");
        refused("begin(0, 0) = BAD_VALUE");
        refused("begin(-2147483648, 0) = BAD_VALUE");
        refused("begin(2147483647, 0) = BAD_VALUE");
        refused("begin(2, 2) = BAD_NODE");
        refused("begin(8, 8) = BAD_NODE");
        refused("begin(2, -1) = BAD_NODE");
        refused("begin(8, 2147483647) = BAD_NODE");

        says(3, "`cost`: its cost, 0 to 99");
        run("addArc(0, 1, 0) = 0; addArc(0, 1, 99) = 1; arc(0, 2) = 0; arc(1, 2) = 99");
        refused("addArc(0, 1, -1) = BAD_VALUE");
        refused("addArc(1, 0, 100) = BAD_VALUE");
        says(3, "Returns its number; BAD_NODE, also if tail and head are the same; BAD_VALUE; FULL if there are 32 arcs.");
        run("begin(8, 0); addArc(7, 0, 1) = 0; addArc(0, 7, 1) = 1; addArc(7, 6, 1) = 2");
        refused("addArc(5, 0, 1) = BAD_NODE", NEW);
        refused("addArc(0, 5, 1) = BAD_NODE", NEW);
        refused("addArc(4, 0, 1) = BAD_NODE", RICH);
        refused("addArc(0, 4, 1) = BAD_NODE", RICH);
        refused("addArc(2, 0, 1) = BAD_NODE", BARREN);
        refused("addArc(0, 2, 1) = BAD_NODE", BARREN);
        refused("addArc(8, 0, 1) = BAD_NODE", FULL_GRAPH);
        refused("addArc(-1, 0, 1) = BAD_NODE");
        refused("addArc(0, -1, 1) = BAD_NODE");
        refused("addArc(0, 0, 1) = BAD_NODE");
        refused("addArc(1, 1, 1) = BAD_NODE");
        refused("addArc(8, 8, 1) = BAD_NODE");
        run("31 times addArc(0, 1, 1); addArc(0, 1, 1) = 31; addArc(0, 1, 1) = FULL; removeArc(0) = 31; addArc(0, 1, 1) = 31");
        refused("addArc(0, 1, 1) = FULL", FULL_GRAPH);

        says(4, "Removes an arc; the numbers of later ones decrease by 1. This is a change.");
        String three = "addArc(0, 1, 10); addArc(1, 2, 20); addArc(2, 3, 30); ";
        run(three + "removeArc(0) = 2; arc(0, 2) = 20; arc(1, 2) = 30; arc(1, 0) = 2; arc(1, 1) = 3; arc(2, 2) = BAD_ARC;"
                + " undo() = 3; arc(0, 2) = 10; arc(2, 2) = 30");
        run(three + "removeArc(1) = 2; arc(0, 2) = 10; arc(1, 2) = 30; arc(2, 2) = BAD_ARC");
        run(three + "removeArc(2) = 2; arc(0, 2) = 10; arc(1, 2) = 20; arc(2, 2) = BAD_ARC");
        run("31 times addArc(0, 1, 1); addArc(4, 3, 9); removeArc(0) = 31; arc(30, 2) = 9; arc(30, 0) = 4; arc(31, 2) = BAD_ARC");
        says(4, "Returns the number of arcs that are left; BAD_ARC.");
        run(three + "removeArc(0) = 2; removeArc(0) = 1; removeArc(0) = 0; removeArc(0) = BAD_ARC");
        refused("removeArc(0) = BAD_ARC", NEW);
        refused("removeArc(5) = BAD_ARC", RICH);
        refused("removeArc(1) = BAD_ARC", BARREN);
        refused("removeArc(32) = BAD_ARC", FULL_GRAPH);
        refused("removeArc(-1) = BAD_ARC");
        refused("removeArc(2147483647) = BAD_ARC");

        says(5, "`cost`: the new cost, 0 to 99");
        run("addArc(0, 1, 5); setCost(0, 0) = 5; arc(0, 2) = 0; setCost(0, 99) = 0; arc(0, 2) = 99; undo() = 2; arc(0, 2) = 0");
        refused("setCost(0, -1) = BAD_VALUE", RICH, BARREN, FULL_GRAPH);
        refused("setCost(0, 100) = BAD_VALUE", RICH, BARREN, FULL_GRAPH);
        refused("setCost(4, -1) = BAD_VALUE", RICH);
        refused("setCost(31, 100) = BAD_VALUE", FULL_GRAPH);
        says(5, "Returns the previous cost; BAD_ARC; BAD_VALUE.");
        run("31 times addArc(0, 1, 5); addArc(0, 1, 6) = 31; setCost(31, 7) = 6; setCost(30, 8) = 5; setCost(32, 9) = BAD_ARC;"
                + " arc(31, 2) = 7; arc(30, 2) = 8");
        refused("setCost(0, 5) = BAD_ARC", NEW);
        refused("setCost(5, 5) = BAD_ARC", RICH);
        refused("setCost(1, 5) = BAD_ARC", BARREN);
        refused("setCost(32, 5) = BAD_ARC", FULL_GRAPH);
        refused("setCost(-1, 5) = BAD_ARC");

        says(6, "Sets the root. This is a change, by which the record is dropped.");
        run(CYCLE + "setRoot(0) = 0" + DROPPED + "; undo(); isRecorded() = 1");
        run(CYCLE + "setRoot(3) = 0; isRecorded() = 0; cost() = NO_ARBORESCENCE; undo(); root() = 0; isRecorded() = 1");
        says(6, "Returns the previous root; BAD_NODE.");
        run("setRoot(4) = 0; setRoot(0) = 4; root() = 0; begin(8, 0); setRoot(7) = 0; root() = 7");
        refused("setRoot(5) = BAD_NODE", NEW);
        refused("setRoot(4) = BAD_NODE", RICH);
        refused("setRoot(2) = BAD_NODE", BARREN);
        refused("setRoot(8) = BAD_NODE");
        refused("setRoot(-1) = BAD_NODE");

        says(7, "`limit`: the new limit, 0 to 7");
        run("setLimit(4, 0) = 7; limit(4) = 0; setLimit(4, 7) = 0; limit(4) = 7; undo() = 1; limit(4) = 0");
        refused("setLimit(0, -1) = BAD_VALUE");
        refused("setLimit(1, 8) = BAD_VALUE");
        says(7, "Returns the previous limit; BAD_NODE; BAD_VALUE.");
        run("setLimit(0, 3) = 7; setLimit(0, 3) = 3; limit(1) = 7; begin(8, 0); setLimit(7, 2) = 7; limit(7) = 2; limit(6) = 7");
        refused("setLimit(5, 1) = BAD_NODE", NEW);
        refused("setLimit(4, 1) = BAD_NODE", RICH);
        refused("setLimit(2, 1) = BAD_NODE", BARREN);
        refused("setLimit(8, 1) = BAD_NODE");
        refused("setLimit(-1, 1) = BAD_NODE");
    }

    private static void addRandom() {
        says(8, "the state becomes (1103515245 * state + 12345) modulo 2147483648, computed without overflow");
        // From 0: 12345, 1406932606, 654583775. From 2147483647: 1043980748, 288979989, 646343466.
        run("begin(8, 0); addRandom(1, 0) = 1; arc(0, 0) = 0; arc(0, 1) = 7; arc(0, 2) = 88");
        run("begin(8, 0); addRandom(1, 2147483647) = 1; arc(0, 0) = 1; arc(0, 1) = 7; arc(0, 2) = 62");
        says(8, "one below N - 1, and the head is this number, plus 1 if it is not less than the tail");
        for (int state = 0; state < 40; state++) {
            randomArc(2, state);
            randomArc(3, state);
            randomArc(8, Integer.MAX_VALUE - state);
        }
        says(8, "This is one change, by which the record is dropped.");
        run("addRandom(8, 1) = 8; undo() = 0; arcs() = 0; undo() = NOT_POSSIBLE");
        run(CYCLE + "addRandom(1, 0)" + DROPPED);
        says(8, "`many`: how many arcs, 1 to 8");
        run("addRandom(1, 1) = 1; addRandom(8, 1) = 9");
        refused("addRandom(0, 1) = BAD_VALUE");
        refused("addRandom(9, 1) = BAD_VALUE");
        refused("addRandom(-1, 1) = BAD_VALUE");
        refused("addRandom(2147483647, 1) = BAD_VALUE");
        says(8, "`state`: the state, 0 or more");
        run("addRandom(1, 0) = 1; addRandom(1, 2147483647) = 2");
        refused("addRandom(1, -1) = BAD_VALUE");
        refused("addRandom(8, -2147483648) = BAD_VALUE");
        says(8, "Returns the number of arcs then; BAD_VALUE; FULL if there would be more than 32 arcs.");
        run("24 times addArc(0, 1, 1); addRandom(8, 1) = 32; arcs() = 32; addRandom(1, 1) = FULL");
        run("25 times addArc(0, 1, 1); addRandom(8, 1) = FULL; arcs() = 25; addRandom(7, 1) = 32; addRandom(1, 1) = FULL");
        run("31 times addArc(0, 1, 1); addRandom(2, 1) = FULL; addRandom(1, 1) = 32");
        refused("addRandom(1, 1) = FULL", FULL_GRAPH);
        refused("addRandom(8, 1) = FULL", FULL_GRAPH, "25 times addArc(0, 1, 1)");
    }

    private static int other(int number, int tail) {
        return number < tail ? number : number + 1;
    }

    private static void randomArc(int nodes, int state) {
        int first = next(state);
        int second = next(first);
        int tail = first / 65536 % nodes;
        run("begin(" + nodes + ", 0); addRandom(1, " + state + ") = 1; arc(0, 0) = " + tail + "; arc(0, 1) = "
                + other(second / 65536 % (nodes - 1), tail) + "; arc(0, 2) = " + next(second) / 65536 % 100);
    }

    private static int next(int state) {
        return new java.math.BigInteger("1103515245").multiply(java.math.BigInteger.valueOf(state))
                .add(java.math.BigInteger.valueOf(12345)).mod(java.math.BigInteger.valueOf(2147483648L)).intValueExact();
    }

    private static void questionsAboutTheGraph() {
        says(9, "Returns N.");
        run("nodes() = 5; begin(9, 0) = BAD_VALUE; nodes() = 5; begin(8, 0); nodes() = 8; begin(1, 0) = BAD_VALUE; nodes() = 8;"
                + " begin(2, 0); nodes() = 2; undo(); nodes() = 8");
        says(10, "Returns the root.");
        run("root() = 0; setRoot(4); root() = 4; setRoot(5) = BAD_NODE; root() = 4; begin(4, 4) = BAD_NODE; root() = 4;"
                + " begin(4, 3); root() = 3; undo(); root() = 4");
        says(11, "Returns the number of arcs.");
        run("arcs() = 0; 32 times addArc(0, 1, 1); arcs() = 32; addArc(0, 1, 1) = FULL; arcs() = 32; removeArc(32) = BAD_ARC;"
                + " arcs() = 32; removeArc(31); arcs() = 31; begin(5, 0); arcs() = 0");
        says(12, "`what`: 0 for its tail, 1 for its head, 2 for its cost");
        run("addArc(3, 4, 99); arc(0, 0) = 3; arc(0, 1) = 4; arc(0, 2) = 99; arc(0, 3) = BAD_VALUE; arc(0, -1) = BAD_VALUE");
        refused("arc(0, 3) = BAD_VALUE", RICH, BARREN, FULL_GRAPH);
        refused("arc(0, -1) = BAD_VALUE", RICH, BARREN, FULL_GRAPH);
        says(12, "Returns this number; BAD_ARC; BAD_VALUE.");
        run("31 times addArc(0, 1, 1); addArc(3, 2, 9); arc(31, 0) = 3; arc(31, 1) = 2; arc(31, 2) = 9; arc(32, 0) = BAD_ARC");
        refused("arc(0, 0) = BAD_ARC", NEW);
        refused("arc(5, 0) = BAD_ARC", RICH);
        refused("arc(1, 2) = BAD_ARC", BARREN);
        refused("arc(32, 0) = BAD_ARC", FULL_GRAPH);
        refused("arc(-1, 0) = BAD_ARC");
        says(13, "Returns its limit; BAD_NODE.");
        run("begin(8, 0); limit(0) = 7; limit(7) = 7; setLimit(7, 0); limit(7) = 0; limit(6) = 7; limit(8) = BAD_NODE");
        refused("limit(5) = BAD_NODE", NEW);
        refused("limit(4) = BAD_NODE", RICH);
        refused("limit(2) = BAD_NODE", BARREN);
        refused("limit(8) = BAD_NODE");
        refused("limit(-1) = BAD_NODE");
    }

    private static void undo() {
        says(14, "Undoes the latest change that is kept.");
        run("addArc(0, 1, 1); addArc(0, 2, 2); setCost(0, 9); undo(); arc(0, 2) = 1; arcs() = 2; undo(); arcs() = 1; undo();"
                + " arcs() = 0");
        run("addArc(0, 1, 1); addArc(0, 1, 2); undo(); addArc(0, 1, 3); undo(); arcs() = 1; arc(0, 2) = 1");
        says(14, "Returns how many changes can still be undone; NOT_POSSIBLE if there is none.");
        run("setLimit(0, 1); undo() = 0; undo() = NOT_POSSIBLE; limit(0) = 7");
        run("8 times setLimit(0, 1); undo() = 7");
        run("9 times setLimit(0, 1); undo() = 7; undo() = 6; setLimit(0, 2); undo() = 6");
        refused("undo() = NOT_POSSIBLE", "addArc(0, 1, 1); cost(); save(0); restore(0); text \"2/0\"");
    }

    private static void callsOfTheText() {
        says(15, "`code`: its code, 32 to 126");
        run("write(32) = 1; write(126) = 2");
        refused("write(31) = BAD_VALUE");
        refused("write(127) = BAD_VALUE");
        refused("write(-1) = BAD_VALUE");
        refused("write(65586) = BAD_VALUE");
        refused("write(-65486) = BAD_VALUE");
        says(15, "Returns the new length of the text; BAD_VALUE; FULL if the text has 300 characters.");
        run("write(50) = 1; 298 times write(50); write(50) = 300; write(50) = FULL; wipe() = 300");
        refused("write(50) = FULL", "300 times write(50)");
        refused("write(44) = FULL", "text \"2/0,0>1:5" + " ".repeat(291) + "\"");
        run("addArc(0, 1, 1); write(50) = 1; undo() = 0; undo() = NOT_POSSIBLE; wipe() = 1");

        says(16, "Empties the text.");
        run("text \"2/0\"; wipe() = 3; fault() = 0; load() = NOT_POSSIBLE; write(50) = 1; fault() = 1");
        says(16, "Returns the length that it had.");
        run("wipe() = 0; write(50); wipe() = 1; wipe() = 0; 300 times write(50); wipe() = 300; wipe() = 0");

        says(17, "Returns the fault of the text; NONE if it is the text of a graph.");
        run("fault() = 0; write(50); fault() = 1; write(47); fault() = 2; write(49); fault() = NONE; write(44); fault() = 4;"
                + " write(49); fault() = 5; write(62); fault() = 6; write(48); fault() = 7; write(58); fault() = 8; write(57);"
                + " fault() = NONE; write(57); fault() = NONE; write(57); fault() = 10; write(44); fault() = 10");
        run("300 times write(50); fault() = 1");
        run("text \"2/0" + " ".repeat(297) + "\"; fault() = 3");

        says(18, "Reads the graph from the text; all limits are 7 then. The text stays. This is a change, by which the "
                + "record is dropped.");
        run("begin(8, 0); setLimit(0, 0); setLimit(7, 3); text \"8/7,7>0:99\"; load() = 1; limit(0) = 7; limit(7) = 7;"
                + " root() = 7; arc(0, 0) = 7; arc(0, 1) = 0; arc(0, 2) = 99; fault() = NONE; undo() = 3; limit(0) = 0;"
                + " limit(7) = 3; arcs() = 0; wipe() = 10");
        run(CYCLE + "text \"4/0,0>1:10,1>2:2,2>1:3,2>3:4,0>2:12\"; load() = 5" + DROPPED + "; cost() = 16; undo();"
                + " isRecorded() = 1");
        run("text \"2/1\"; load() = 0; load() = 0; undo() = 1; undo() = 0; nodes() = 5; load() = 0; wipe() = 3");
        says(18, "Returns the number of arcs; NOT_POSSIBLE if the text has a fault.");
        run("text \"8/7" + ",0>7:55".repeat(32) + "\"; load() = 32; arc(31, 2) = 55; arcs() = 32; addArc(0, 1, 1) = FULL");
        refused("load() = NOT_POSSIBLE", "text \"8/7" + ",0>7:55".repeat(33) + "\"");
        refused("load() = NOT_POSSIBLE", "addArc(0, 1, 3); text \"2/0,0>1:1,\"");
        refused("load() = NOT_POSSIBLE", "addArc(0, 1, 3); text \"2/0,0>1:1,1>1:1\"");
        refused("load() = NOT_POSSIBLE", BARREN, NEW);
    }

    private static void record() {
        says(19, "Returns 1 if there is a record, 0 if not (no contraction is made).");
        run("begin(2, 0); addArc(0, 1, 3); isRecorded() = 0; isRecorded() = 0; runs() = 0; cost(); isRecorded() = 1;"
                + " runs() = 1; setRoot(1); isRecorded() = 0; runs() = 1");
        says(20, "Returns the number of runs so far.");
        run("runs() = 0; cost(); runs() = 1; cost(); runs() = 2; begin(2, 0); runs() = 2; addArc(0, 1, 1); cost(); runs() = 3;"
                + " cost(); runs() = 3; undo(); runs() = 3; save(0); restore(0); runs() = 3; begin(2, 0); runs() = 3");
        // The contractions behind the alternatives are not those that make the record.
        run(CYCLE + "costWithout(0); costWith(4); slack(0); secondBest(0); necessary(0); runs() = 1");
        says(21, "Returns the number of reuses so far.");
        run("reuses() = 0; setLimit(0, 1); reuses() = 0; begin(2, 0); addArc(0, 1, 1); cost(); setLimit(0, 1); reuses() = 1;"
                + " setLimit(0, 8) = BAD_VALUE; reuses() = 1; setLimit(2, 1) = BAD_NODE; reuses() = 1; undo(); reuses() = 1;"
                + " save(0); restore(0); reuses() = 1; setRoot(0); reuses() = 1");
        run("32 times addArc(0, 1, 1); begin(2, 0); 32 times addArc(0, 1, 1); cost(); addArc(0, 1, 1) = FULL; reuses() = 0;"
                + " setCost(0, 100) = BAD_VALUE; removeArc(32) = BAD_ARC; reuses() = 0; isRecorded() = 1");
    }

    private static void cheapest() {
        says(22, "Returns the cost of the arborescence of the record; NO_ARBORESCENCE.");
        run("begin(2, 0); addArc(0, 1, 0); cost() = 0; setCost(0, 99); cost() = 99; runs() = 1; reuses() = 1");
        run("begin(8, 0); addArc(0, 1, 99); addArc(1, 2, 99); addArc(2, 3, 99); addArc(3, 4, 99); addArc(4, 5, 99);"
                + " addArc(5, 6, 99); addArc(6, 7, 99); cost() = 693; limitedCost() = 693");
        refusedWithRun("cost() = NO_ARBORESCENCE", BARREN, NEW);

        says(23, "Returns the arc of the arborescence of the record that has this node as its head; BAD_NODE; "
                + "NO_ARBORESCENCE; NONE for the root.");
        run(star(8) + "enteringArc(0) = NONE; enteringArc(1) = 0; enteringArc(7) = 6; enteringArc(8) = BAD_NODE");
        run("begin(2, 1); addArc(0, 1, 0); addArc(1, 0, 5); enteringArc(1) = NONE; enteringArc(0) = 1");
        refused("enteringArc(5) = BAD_NODE", NEW);
        refused("enteringArc(4) = BAD_NODE", RICH);
        refused("enteringArc(8) = BAD_NODE");
        refused("enteringArc(-1) = BAD_NODE");
        refusedWithRun("enteringArc(0) = NO_ARBORESCENCE", BARREN, NEW);
        refusedWithRun("enteringArc(1) = NO_ARBORESCENCE", BARREN, NEW);

        says(24, "Returns how many arcs of the arborescence of the record have this node as their tail; BAD_NODE; "
                + "NO_ARBORESCENCE.");
        run(star(8) + "outDegree(0) = 7; outDegree(1) = 0; outDegree(7) = 0; outDegree(8) = BAD_NODE");
        run("begin(8, 7); addArc(7, 0, 1); addArc(0, 1, 1); addArc(1, 2, 1); addArc(2, 3, 1); addArc(3, 4, 1); addArc(4, 5, 1);"
                + " addArc(5, 6, 1); addArc(7, 6, 2); outDegree(7) = 1; outDegree(5) = 1; outDegree(6) = 0");
        refused("outDegree(5) = BAD_NODE", NEW);
        refused("outDegree(4) = BAD_NODE", RICH);
        refused("outDegree(8) = BAD_NODE");
        refused("outDegree(-1) = BAD_NODE");
        refusedWithRun("outDegree(1) = NO_ARBORESCENCE", BARREN, NEW);

        says(27, "Returns its reduced cost by the dual values of the record; BAD_ARC; NO_ARBORESCENCE.");
        run(CYCLE + "reducedCost(0) = 0; reducedCost(2) = 0; reducedCost(4) = 3; reducedCost(5) = BAD_ARC; addArc(3, 0, 0);"
                + " reducedCost(5) = 0; addArc(3, 0, 99); reducedCost(6) = 99");
        refused("reducedCost(0) = BAD_ARC", NEW);
        refused("reducedCost(5) = BAD_ARC", RICH);
        refused("reducedCost(32) = BAD_ARC", FULL_GRAPH);
        refused("reducedCost(-1) = BAD_ARC");
        refusedWithRun("reducedCost(0) = NO_ARBORESCENCE", BARREN);
    }

    private static void groups() {
        says(25, "Returns the number of groups of the record (also those of single nodes); NO_ARBORESCENCE.");
        run("begin(2, 0); addArc(0, 1, 1); groups() = 2");
        run(CYCLE + "groups() = 5; removeArc(2); groups() = 5; setRoot(0); groups() = 4");
        refusedWithRun("groups() = NO_ARBORESCENCE", BARREN, NEW);

        says(26, "0 for the set of its nodes, in which bit v stands for node v, 1 for its dual value, 2 for the group of "
                + "which it is a part (NONE if it is on top)");
        run(CYCLE + "group(0, 0) = 1; group(3, 0) = 8; group(4, 0) = 6; group(0, 1) = 0; group(4, 1) = 7; group(0, 2) = NONE;"
                + " group(1, 2) = 4; group(3, 2) = NONE; group(4, 2) = NONE; group(0, 3) = BAD_VALUE; group(0, -1) = BAD_VALUE");
        says(26, "Returns this; BAD_VALUE if group is negative or what is out of range; NO_ARBORESCENCE; NONE if there is no "
                + "such group.");
        run(CYCLE + "group(5, 0) = NONE; group(5, 1) = NONE; group(5, 2) = NONE; group(2147483647, 0) = NONE;"
                + " group(5, 3) = BAD_VALUE; group(-1, 0) = BAD_VALUE");
        refused("group(-1, 0) = BAD_VALUE");
        refused("group(-2147483648, 2) = BAD_VALUE");
        refused("group(0, 3) = BAD_VALUE");
        refused("group(0, -1) = BAD_VALUE");
        refused("group(5, 3) = BAD_VALUE");
        refusedWithRun("group(0, 0) = NO_ARBORESCENCE", BARREN, NEW);
        refusedWithRun("group(2147483647, 2) = NO_ARBORESCENCE", BARREN, NEW);
    }

    private static void alternatives() {
        says(28, "Returns this cost; BAD_ARC; NO_ARBORESCENCE if there is none at all; NONE if each one contains the arc.");
        run(CYCLE + "costWithout(0) = 19; costWithout(3) = NONE; costWithout(4) = 16; costWithout(5) = BAD_ARC");
        run("begin(2, 0); addArc(0, 1, 5); costWithout(0) = NONE; addArc(0, 1, 5); costWithout(0) = 5; costWithout(1) = 5");
        // The 32nd arc, whose bit is the sign of a number.
        run("begin(2, 0); 31 times addArc(0, 1, 9); addArc(0, 1, 8) = 31; costWithout(31) = 9; costWithout(30) = 8;"
                + " costWith(31) = 8; costWith(30) = 9; costWithout(32) = BAD_ARC");
        run("begin(2, 0); 31 times addArc(1, 0, 9); addArc(0, 1, 8) = 31; costWithout(31) = NONE; costWithout(0) = 8;"
                + " costWith(0) = NONE; arborescencesWith(31) = 1");
        refused("costWithout(0) = BAD_ARC", NEW);
        refused("costWithout(5) = BAD_ARC", RICH);
        refused("costWithout(32) = BAD_ARC", FULL_GRAPH);
        refused("costWithout(-1) = BAD_ARC");
        refusedWithRun("costWithout(0) = NO_ARBORESCENCE", BARREN);

        says(29, "Returns this cost; BAD_ARC; NO_ARBORESCENCE if there is none at all; NONE if none contains the arc.");
        run(CYCLE + "costWith(0) = 16; costWith(4) = 19; costWith(2) = 19; costWith(5) = BAD_ARC; addArc(3, 0, 0);"
                + " costWith(5) = NONE");
        run("begin(3, 0); addArc(0, 1, 8); addArc(2, 1, 1); addArc(1, 2, 1); costWith(1) = NONE; costWith(0) = 9");
        refused("costWith(0) = BAD_ARC", NEW);
        refused("costWith(5) = BAD_ARC", RICH);
        refused("costWith(32) = BAD_ARC", FULL_GRAPH);
        refused("costWith(-1) = BAD_ARC");
        refusedWithRun("costWith(0) = NO_ARBORESCENCE", BARREN);

        says(30, "if it is in the arborescence of the record, costWithout minus cost; otherwise costWith minus cost");
        run(CYCLE + "slack(0) = 3; slack(1) = 3; slack(2) = 3; slack(4) = 3");
        // A record that stays tells which of two equal arcs is inside.
        run("begin(2, 0); addArc(0, 1, 7); addArc(0, 1, 5); addArc(0, 1, 9); cost(); setCost(0, 5); isRecorded() = 1;"
                + " enteringArc(1) = 1; slack(0) = 0; slack(1) = 0; slack(2) = 4");
        says(30, "Returns the slack; BAD_ARC; NO_ARBORESCENCE; NONE if costWithout or costWith is NONE.");
        run(CYCLE + "slack(3) = NONE; addArc(3, 0, 0); slack(5) = NONE; slack(6) = BAD_ARC");
        run("begin(3, 0); addArc(0, 1, 8); addArc(2, 1, 1); addArc(1, 2, 1); slack(1) = NONE; slack(0) = NONE");
        refused("slack(0) = BAD_ARC", NEW);
        refused("slack(5) = BAD_ARC", RICH);
        refused("slack(32) = BAD_ARC", FULL_GRAPH);
        refused("slack(-1) = BAD_ARC");
        refusedWithRun("slack(0) = NO_ARBORESCENCE", BARREN);
    }

    private static void secondBestAndNecessary() {
        says(31, "the arc for which costWithout is least; of several, the one with the lowest number");
        run(CYCLE + "secondBest(0) = 19; secondBest(1) = 0");
        run("begin(3, 0); addArc(0, 2, 9); addArc(0, 2, 7); addArc(0, 1, 6); addArc(0, 1, 4); secondBest(0) = 13;"
                + " secondBest(1) = 1; setCost(2, 5); secondBest(0) = 12; secondBest(1) = 3");
        // The least may come before a greater one, and behind it.
        run("begin(3, 0); addArc(0, 1, 4); addArc(0, 1, 5); addArc(0, 2, 4); addArc(0, 2, 9); secondBest(0) = 9;"
                + " secondBest(1) = 0; setCost(1, 10); secondBest(0) = 13; secondBest(1) = 2; setCost(1, 9);"
                + " secondBest(0) = 13; secondBest(1) = 0");
        // An arc that each arborescence contains is not the one.
        run("begin(3, 0); addArc(0, 1, 1); addArc(0, 2, 1); addArc(0, 2, 1); secondBest(0) = 2; secondBest(1) = 1");
        run("begin(2, 0); 31 times addArc(1, 0, 1); addArc(0, 1, 1) = 31; secondBest(0) = NONE; removeArc(0); addArc(0, 1, 9);"
                + " secondBest(0) = 9; secondBest(1) = 30");
        says(31, "`what`: 0 for the cost of this arborescence, 1 for the arc that is left out");
        refused("secondBest(2) = BAD_VALUE");
        refused("secondBest(-1) = BAD_VALUE");
        says(31, "Returns this number; BAD_VALUE; NO_ARBORESCENCE; NONE if there is no other arborescence.");
        run("begin(2, 0); addArc(0, 1, 5); addArc(1, 0, 5); secondBest(0) = NONE; secondBest(1) = NONE; addArc(0, 1, 99);"
                + " secondBest(0) = 99; secondBest(1) = 0");
        refusedWithRun("secondBest(0) = NO_ARBORESCENCE", BARREN, NEW);
        refusedWithRun("secondBest(1) = NO_ARBORESCENCE", BARREN, NEW);

        says(32, "Returns the arcs that are in all cheapest arborescences.");
        run("begin(3, 0); addArc(0, 1, 5); addArc(0, 1, 5); addArc(0, 2, 5); addArc(0, 2, 6); necessary(0) = 2;"
                + " necessary(1) = NONE");
        run("begin(2, 0); addArc(0, 1, 5); addArc(0, 1, 6); necessary(0) = 0; setCost(1, 5); isRecorded() = 1;"
                + " necessary(0) = NONE");
        says(32, "`k`: an index, 0 or more");
        refused("necessary(-1) = BAD_VALUE");
        refused("necessary(-2147483648) = BAD_VALUE");
        says(32, "Returns the arc with this index, in ascending order; BAD_VALUE; NO_ARBORESCENCE; NONE if there are not so "
                + "many.");
        run("begin(4, 0); addArc(0, 3, 1); addArc(3, 2, 1); addArc(2, 1, 1); necessary(0) = 0; necessary(1) = 1;"
                + " necessary(2) = 2; necessary(3) = NONE; necessary(2147483647) = NONE");
        run("begin(2, 0); 31 times addArc(1, 0, 1); addArc(0, 1, 1); necessary(0) = 31; necessary(1) = NONE");
        refusedWithRun("necessary(0) = NO_ARBORESCENCE", BARREN, NEW);
        refusedWithRun("necessary(2147483647) = NO_ARBORESCENCE", BARREN, NEW);
    }

    private static void limited() {
        says(33, "Returns the cost of the best limited arborescence; NO_ARBORESCENCE if there is no limited one.");
        run("begin(2, 0); addArc(0, 1, 0); limitedCost() = 0; setLimit(0, 1); limitedCost() = 0; setLimit(0, 0);"
                + " limitedCost() = NO_ARBORESCENCE; cost() = 0; limitedCost() = NO_ARBORESCENCE; runs() = 1");
        refused("limitedCost() = NO_ARBORESCENCE", BARREN, NEW,
                "begin(2, 0); addArc(0, 1, 5); setLimit(0, 0); cost() = 5");

        says(34, "Returns the arc of the best limited arborescence that has this node as its head; BAD_NODE; "
                + "NO_ARBORESCENCE if there is no limited one; NONE for the root.");
        run(star(8) + "limitedArc(0) = NONE; limitedArc(1) = 0; limitedArc(7) = 6; limitedArc(8) = BAD_NODE;"
                + " setLimit(0, 6); limitedArc(0) = NO_ARBORESCENCE; limitedArc(7) = NO_ARBORESCENCE;"
                + " limitedArc(8) = BAD_NODE; setRoot(7); limitedArc(7) = NO_ARBORESCENCE");
        // The record keeps its arc where the lowest number is another one.
        run("begin(2, 0); addArc(0, 1, 7); addArc(0, 1, 5); cost(); setCost(0, 5); enteringArc(1) = 1; limitedArc(1) = 0");
        refused("limitedArc(5) = BAD_NODE", NEW);
        refused("limitedArc(4) = BAD_NODE", RICH);
        refused("limitedArc(8) = BAD_NODE");
        refused("limitedArc(-1) = BAD_NODE");
        refused("limitedArc(0) = NO_ARBORESCENCE", BARREN, NEW,
                "begin(2, 0); addArc(0, 1, 5); setLimit(0, 0); cost() = 5");
    }

    private static void priced() {
        says(35, "Returns the greatest bound of some rounds by prices.");
        // Bounds 3, 7 - 10 (the price) = -3 and 3 again; with a step of 1: 3, 4, 5, ..
        String turn = "begin(4, 0); addArc(0, 1, 1); addArc(1, 2, 1); addArc(1, 3, 1); addArc(0, 2, 5); addArc(0, 3, 5);"
                + " setLimit(1, 1); ";
        run(turn + "priceBound(1, 10) = 3; priceBound(2, 10) = 3; priceBound(1, 1) = 3; priceBound(2, 1) = 4;"
                + " priceBound(5, 1) = 7; priceBound(20, 1) = 7");
        says(35, "`rounds`: the number of rounds, 1 to 20");
        String climb = "begin(2, 0); addArc(0, 1, 50); setLimit(0, 0); ";
        run(climb + "priceBound(1, 1) = 50; priceBound(2, 1) = 51; priceBound(20, 1) = 69; priceBound(0, 1) = BAD_VALUE;"
                + " priceBound(21, 1) = BAD_VALUE");
        says(35, "`step`: the step, 1 to 20");
        run(climb + "priceBound(20, 20) = 430; priceBound(2, 20) = 70; priceBound(2, 0) = BAD_VALUE;"
                + " priceBound(2, 21) = BAD_VALUE");
        says(35, "Returns the greatest bound; BAD_VALUE; NO_ARBORESCENCE.");
        for (String arguments : new String[] {"0, 1", "21, 1", "1, 0", "1, 21", "-1, -1", "2147483647, 1"}) {
            refused("priceBound(" + arguments + ") = BAD_VALUE");
            refused("price(0, " + arguments + ") = BAD_VALUE");
        }
        refused("priceBound(1, 1) = NO_ARBORESCENCE", BARREN, NEW);
        refused("priceBound(20, 20) = NO_ARBORESCENCE", BARREN, NEW);

        says(36, "`rounds`: the number of rounds, 1 to 20");
        run(climb + "price(0, 1, 1) = 1; price(0, 20, 1) = 20; price(1, 20, 1) = 0; price(0, 0, 1) = BAD_VALUE;"
                + " price(0, 21, 1) = BAD_VALUE");
        says(36, "`step`: the step, 1 to 20");
        run(climb + "price(0, 1, 20) = 20; price(0, 20, 20) = 400; price(0, 1, 0) = BAD_VALUE; price(0, 1, 21) = BAD_VALUE");
        says(36, "Returns the price of the node after these rounds; BAD_NODE; BAD_VALUE; NO_ARBORESCENCE.");
        run("begin(8, 7); addArc(7, 0, 1); addArc(7, 1, 1); addArc(7, 2, 1); addArc(7, 3, 1); addArc(7, 4, 1); addArc(7, 5, 1);"
                + " addArc(7, 6, 1); setLimit(7, 6); price(7, 20, 20) = 400; price(0, 20, 20) = 0; price(8, 1, 1) = BAD_NODE");
        refused("price(5, 1, 1) = BAD_NODE", NEW);
        refused("price(4, 1, 1) = BAD_NODE", RICH);
        refused("price(8, 1, 1) = BAD_NODE");
        refused("price(-1, 1, 1) = BAD_NODE");
        refused("price(0, 1, 1) = NO_ARBORESCENCE", BARREN, NEW);
        refused("price(1, 20, 20) = NO_ARBORESCENCE", BARREN, NEW);
    }

    private static void counts() {
        says(37, "Returns the number of arborescences (0 if there is none).");
        run("arborescences() = 0; begin(2, 0); arborescences() = 0; addArc(1, 0, 1); arborescences() = 0; addArc(0, 1, 1);"
                + " arborescences() = 1; runs() = 0; isRecorded() = 0");
        run("begin(2, 0); 32 times addArc(0, 1, 1); arborescences() = 32");
        run("begin(8, 0); 5 times addArc(0, 1, 1); 5 times addArc(0, 2, 1); 5 times addArc(0, 3, 1); 5 times addArc(0, 4, 1);"
                + " 4 times addArc(0, 5, 1); 4 times addArc(0, 6, 1); 4 times addArc(0, 7, 1); arborescences() = 40000");
        run("begin(3, 0); addArc(1, 2, 1); addArc(2, 1, 1); arborescences() = 0; addArc(0, 1, 1); arborescences() = 1;"
                + " setLimit(0, 0); arborescences() = 1");
        // All arcs between 5 nodes, whichever is the root: 5 to the power of 3 (Cayley).
        StringBuilder complete = new StringBuilder();
        for (int arc = 0; arc < 20; arc++) {
            complete.append("addArc(").append(arc / 4).append(", ").append(other(arc % 4, arc / 4)).append(", 1); ");
        }
        run(complete + "arborescences() = 125; setRoot(1); arborescences() = 125; setRoot(4); arborescences() = 125");

        says(38, "Returns the number of arborescences that contain it; BAD_ARC.");
        // Each of the 10 pairs is joined in 50 of these trees; where the root is tells the direction.
        run(complete + "arborescencesWith(0) = 50; arborescencesWith(4) = 0; setRoot(1); arborescencesWith(0) = 0;"
                + " arborescencesWith(4) = 50; setRoot(4); arborescencesWith(0) = 25; arborescencesWith(4) = 25");
        run("begin(2, 0); 31 times addArc(0, 1, 1); addArc(1, 0, 1); arborescencesWith(0) = 1; arborescencesWith(30) = 1;"
                + " arborescencesWith(31) = 0; arborescencesWith(32) = BAD_ARC");
        run("begin(3, 0); addArc(1, 2, 1); addArc(2, 1, 1); arborescencesWith(0) = 0; addArc(0, 1, 1); arborescencesWith(0) = 1;"
                + " arborescencesWith(1) = 0; runs() = 0");
        refused("arborescencesWith(0) = BAD_ARC", NEW);
        refused("arborescencesWith(5) = BAD_ARC", RICH);
        refused("arborescencesWith(1) = BAD_ARC", BARREN);
        refused("arborescencesWith(32) = BAD_ARC", FULL_GRAPH);
        refused("arborescencesWith(-1) = BAD_ARC");
    }

    private static void slots() {
        says(39, "Saves the graph, the limits, and the record or that there is none in a slot, replacing what it held.");
        run("begin(2, 1); addArc(1, 0, 4); setLimit(1, 1); save(0) = 1; begin(8, 0); save(1) = 0; restore(0) = 1; nodes() = 2;"
                + " root() = 1; arc(0, 2) = 4; limit(1) = 1; restore(1) = 0; nodes() = 8; save(0) = 0; restore(0) = 0; nodes() = 8");
        run(CYCLE + "save(0) = 5; setRoot(0); isRecorded() = 0; save(1) = 5; restore(0); isRecorded() = 1; group(4, 1) = 7;"
                + " restore(1); isRecorded() = 0; runs() = 1");
        // What comes after does not reach the slot.
        run(CYCLE + "save(0); setCost(1, 4); removeArc(2); restore(0); arc(1, 2) = 2; group(2, 1) = 2; enteringArc(3) = 3;"
                + " setCost(1, 4); restore(0); arc(1, 2) = 2; group(2, 1) = 2");
        says(39, "`slot`: the slot, 0 or 1");
        refused("save(2) = BAD_VALUE");
        refused("save(-1) = BAD_VALUE");
        says(39, "Returns the number of arcs; BAD_VALUE.");
        run("save(0) = 0; 32 times addArc(0, 1, 1); save(1) = 32; undo() = 7");

        says(40, "Restores what a slot holds; the slot stays. Nothing can be undone then.");
        run("setLimit(0, 1); save(1) = 0; setLimit(0, 2); restore(1) = 0; limit(0) = 1; undo() = NOT_POSSIBLE; setLimit(0, 3);"
                + " undo() = 0; limit(0) = 1; restore(1) = 0; restore(1) = 0; limit(0) = 1; undo() = NOT_POSSIBLE");
        run("9 times setLimit(0, 1); save(0); restore(0); 9 times setLimit(0, 2); undo() = 7; undo() = 6");
        run("begin(2, 0); addArc(0, 1, 3); save(0); cost(); setLimit(0, 1); write(50); restore(0) = 1; isRecorded() = 0;"
                + " runs() = 1; reuses() = 1; wipe() = 1; limitedCost() = 3");
        run("begin(2, 0); addArc(0, 1, 3); save(1); setCost(0, 8); limitedCost() = 8; restore(1); limitedCost() = 3;"
                + " limitedArc(1) = 0");
        says(40, "`slot`: the slot, 0 or 1");
        refused("restore(2) = BAD_VALUE");
        refused("restore(-1) = BAD_VALUE");
        says(40, "Returns the number of arcs then; BAD_VALUE; NOT_POSSIBLE if the slot holds nothing.");
        run("save(0) = 0; addArc(0, 1, 1); restore(1) = NOT_POSSIBLE; arcs() = 1; undo() = 0; 32 times addArc(0, 1, 1);"
                + " save(1) = 32; restore(0) = 0; restore(1) = 32");
        refused("restore(0) = NOT_POSSIBLE", NEW, RICH, FULL_GRAPH);
        refused("restore(1) = NOT_POSSIBLE", NEW, BARREN, FULL_GRAPH);
    }

    /** Arcs 0 to nodes - 2 from the root 0 to each other node, at a cost of 1. */
    private static String star(int nodes) {
        StringBuilder calls = new StringBuilder("begin(" + nodes + ", 0); ");
        for (int v = 1; v < nodes; v++) {
            calls.append("addArc(0, ").append(v).append(", 1); ");
        }
        return calls.toString();
    }

    // ---- How a sentence is named and its calls are made

    private static void says(int promise, String sentence) {
        named = (promise == TERMS ? "Terms" : "promise " + promise) + ", \"" + sentence + "\"";
        NAMED.add(promise);
        if (document == null) {
            return;
        }
        String where = document;
        if (promise != TERMS) {
            int from = document.indexOf("## Promise " + promise + ":");
            int to = document.indexOf("\n## ", from + 1);
            where = from < 0 ? "" : document.substring(from, to < 0 ? document.length() : to);
        }
        if (!where.contains(sentence)) {
            wrong("does not stand in the document");
        }
    }

    private static void allAreNamed() {
        named = "all promises";
        for (int promise = 1; promise <= PROMISES; promise++) {
            if (!NAMED.contains(promise)) {
                wrong("promise " + promise + " is not named");
            }
        }
    }

    private static void wrong(String what) {
        wrong++;
        System.out.println(named + ": " + what);
    }

    private static void due(String what, long got, long want) {
        if (got != want) {
            wrong(what + " answered " + got + ", due is " + want);
        }
    }

    /** Makes calls on a new object, of which each answer that is given must come. */
    private static void run(String script) {
        if (runOn(script) > LAST_CALL) {
            wrong("too many calls: " + script);
        }
    }

    private static int runOn(String script) {
        ArborescenceFinder x = new ArborescenceFinder();
        int calls = 0;
        for (String item : items(script)) {
            calls += play(x, item, script);
        }
        return calls;
    }

    private static ArborescenceFinder made(String script) {
        ArborescenceFinder x = new ArborescenceFinder();
        for (String item : items(script)) {
            play(x, item, script);
        }
        return x;
    }

    /** The call is refused in each of these states (in all, if none is told), and leaves it as it was. */
    private static void refused(String call, String... states) {
        refusedWithRuns(call, 0, states);
    }

    /** The same, for a call that counts a run before it is refused. */
    private static void refusedWithRun(String call, String... states) {
        refusedWithRuns(call, 1, states);
    }

    private static void refusedWithRuns(String call, int runs, String... states) {
        List<String> ways = new ArrayList<>(List.of("", "restore(0)", "restore(1)"));
        for (int undone = 1; undone <= 9; undone++) {
            ways.add(undone + " times undo()");
        }
        for (String state : states.length == 0 ? STATES : states) {
            for (String way : ways) {
                String without = view(made(state), way, 0);
                ArborescenceFinder x = made(state);
                play(x, call, state + "; " + call);
                String with = view(x, way, runs);
                if (!with.equals(without)) {
                    wrong(call + " changes something in the state \"" + state + "\", seen after \"" + way + "\":\n  "
                            + without + "\n  " + with);
                }
            }
        }
    }

    /** All that other calls show: first what is seen without a run, then the rest. */
    private static String view(ArborescenceFinder x, String way, int extraRuns) {
        StringBuilder seen = new StringBuilder();
        for (String item : items(way)) {
            int times = item.contains(" times ") ? Integer.parseInt(item.substring(0, item.indexOf(' '))) : 1;
            String call = item.substring(item.contains(" times ") ? item.indexOf(" times ") + 7 : 0);
            for (int i = 0; i < times; i++) {
                seen.append(' ').append(answer(x, call));
            }
        }
        viewGraph(x, seen);
        seen.append(" record ").append(x.isRecorded()).append(' ').append(x.runs() - extraRuns).append(' ').append(x.reuses());
        viewRecord(x, seen);
        seen.append(" limited ").append(x.limitedCost()).append(" count ").append(x.arborescences());
        for (int v = 0; v < x.nodes(); v++) {
            seen.append(' ').append(x.limitedArc(v)).append(' ').append(x.price(v, 3, 2));
        }
        seen.append(" text ").append(x.fault()).append(' ').append(x.load());
        viewGraph(x, seen);
        seen.append(' ').append(x.wipe());
        return seen.toString();
    }

    private static void viewGraph(ArborescenceFinder x, StringBuilder seen) {
        seen.append(" graph ").append(x.nodes()).append('/').append(x.root());
        int arcs = x.arcs();
        for (int a = 0; a < arcs; a++) {
            seen.append(',').append(x.arc(a, 0)).append('>').append(x.arc(a, 1)).append(':').append(x.arc(a, 2));
        }
        int nodes = x.nodes();
        for (int v = 0; v < nodes; v++) {
            seen.append(' ').append(x.limit(v));
        }
    }

    private static void viewRecord(ArborescenceFinder x, StringBuilder seen) {
        int groups = x.groups();
        seen.append(" groups ").append(groups).append(" cost ").append(x.cost());
        for (int g = 0; g < groups; g++) {
            seen.append(' ').append(x.group(g, 0)).append('-').append(x.group(g, 1)).append('-').append(x.group(g, 2));
        }
        int nodes = x.nodes();
        for (int v = 0; v < nodes; v++) {
            seen.append(' ').append(x.enteringArc(v));
        }
    }

    private static List<String> items(String script) {
        List<String> items = new ArrayList<>();
        for (String item : script.split(";")) {
            // Blanks behind the first one belong to a text, if there is one.
            if (!item.isBlank()) {
                items.add(item.strip());
            }
        }
        return items;
    }

    /** One item of a script; answers how many calls it was. */
    private static int play(ArborescenceFinder x, String item, String script) {
        if (item.startsWith("text \"")) {
            String signs = item.substring(6, item.length() - 1);
            int written = 0;
            for (int i = 0; i < signs.length(); i++) {
                written += x.write(signs.charAt(i)) > 0 ? 1 : 0;
            }
            return written;
        }
        int times = 1;
        String rest = item;
        int many = item.indexOf(" times ");
        if (many > 0) {
            times = Integer.parseInt(item.substring(0, many));
            rest = item.substring(many + 7);
        }
        int equals = rest.indexOf(" = ");
        String call = equals < 0 ? rest : rest.substring(0, equals);
        for (int i = 0; i < times; i++) {
            long got = answer(x, call);
            if (equals >= 0) {
                String want = rest.substring(equals + 3);
                Long constant = CONSTANTS.get(want);
                due(call + " in \"" + script + "\"", got, constant != null ? constant : Long.parseLong(want));
            }
        }
        return times;
    }

    private static long answer(ArborescenceFinder x, String call) {
        int open = call.indexOf('(');
        String inside = call.substring(open + 1, call.length() - 1);
        String[] numbers = inside.isEmpty() ? new String[0] : inside.split(", ");
        Object[] arguments = new Object[numbers.length];
        for (int i = 0; i < numbers.length; i++) {
            arguments[i] = Integer.parseInt(numbers[i]);
        }
        try {
            return ((Number) METHODS.get(call.substring(0, open)).invoke(x, arguments)).longValue();
        } catch (ReflectiveOperationException thrown) {
            throw new IllegalStateException(call, thrown);
        }
    }
}
