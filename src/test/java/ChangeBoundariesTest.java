import java.util.ArrayList;
import java.util.Arrays;
import java.util.Collections;
import java.util.List;

/** Promises 1 to 6, each sentence of theirs that names a boundary case. */
public final class ChangeBoundariesTest {
    private static final int BAD = GraphTwins.BAD;
    private static final int MOST = 9;

    private static final Checks CHECKS = new Checks();

    public static void main(String[] args) {
        newIsAsBehindBegin();
        newHasOneVertexOnly();
        newHasNoNaming();
        beginRefusesWhatIsTooSmall();
        beginRefusesWhatIsTooLarge();
        beginTakesEverySize();
        beginEmptiesFullGraphs();
        beginBringsNothingBack();
        beginEndsTheNaming();
        labelTellsWhatItWas();
        labelSetsOneLabelOnly();
        labelReachesTheLastVertices();
        labelRefusesGraphs();
        labelRefusesVertices();
        labelRefusesLabels();
        labelRefusesOneVertexTwice();
        labelHasNoPlaceOnOneVertex();
        tintTellsWhatItWas();
        tintSetsOneTintOnly();
        tintRefusesGraphs();
        tintRefusesVertices();
        tintRefusesTints();
        exchangeMovesAll();
        exchangeMovesTheLabelsBetween();
        exchangeOfOneVertexTwice();
        exchangeReachesTheLastVertices();
        exchangeRefusesGraphs();
        exchangeRefusesVertices();
        copyOfFullAndEmpty();
        copyLeavesTheOtherOne();
        copyOfOneVertex();
        copyRefusesGraphs();
        CHECKS.end();
    }

    private static void due(String call, long got, long want) {
        CHECKS.due(call, got, want);
    }

    private static void dueMarks(String name, GraphTwins x, int g, Integer... marks) {
        CHECKS.due(name + ": tints and labels", Lively.marks(x, g), Arrays.asList(marks));
    }

    private static void dueAllMarks(String name, GraphTwins x, int g, int n, int mark) {
        CHECKS.due(name + ": tints and labels", Lively.marks(x, g), Collections.nCopies(n * n, mark));
    }

    // Promise 1

    private static void newIsAsBehindBegin() {
        CHECKS.promise(1, "as behind begin(1)");
        GraphTwins begun = new GraphTwins();
        begun.begin(1);
        GraphTwins used = Lively.made();
        used.begin(1);
        List<Integer> answers = Lively.answers(new GraphTwins());
        CHECKS.due("a new object", answers, Lively.answers(begun));
        CHECKS.due("a new object", answers, Lively.answers(used));
        CHECKS.due("its marks", Lively.rest(new GraphTwins()), Lively.rest(begun));
    }

    private static void newHasOneVertexOnly() {
        CHECKS.promise(1, "as behind begin(1), one vertex");
        GraphTwins x = new GraphTwins();
        due("count(0)", x.count(0), 1);
        due("count(4)", x.count(4), 1);
        for (int g = 0; g < 2; g++) {
            due("edges", x.count(1 + g), 0);
            due("tint of vertex 0", x.tint(g, 0, 0), 0);
            due("tint of vertex 1", x.tint(g, 1, 0), BAD);
            due("label to vertex 1", x.label(g, 0, 1, 0), BAD);
            due("exchange with vertex 1", x.exchange(g, 0, 1), BAD);
            due("colour of vertex 1", x.colour(g, 1), BAD);
            due("orbit of vertex 1", x.orbit(g, 1), BAD);
            due("form(g, 1)", x.form(g, 1), BAD);
        }
        due("twins()", x.twins(), 1);
        due("image(1)", x.image(1), BAD);
    }

    private static void newHasNoNaming() {
        CHECKS.promise(1, "as behind begin(1), no naming at hand");
        CHECKS.dueNoNaming("a new object", new GraphTwins());
    }

    // Promise 2

    private static void beginRefusesWhatIsTooSmall() {
        CHECKS.promise(2, "BAD: n below 1");
        for (int n : new int[] {0, -1, -9, Integer.MIN_VALUE}) {
            Lively.dueRefused(CHECKS, "begin(" + n + ")", BAD, x -> x.begin(n));
        }
    }

    private static void beginRefusesWhatIsTooLarge() {
        CHECKS.promise(2, "BAD: n above 9");
        for (int n : new int[] {10, 11, 16, 256, Integer.MAX_VALUE}) {
            Lively.dueRefused(CHECKS, "begin(" + n + ")", BAD, x -> x.begin(n));
        }
    }

    private static void beginTakesEverySize() {
        CHECKS.promise(2, "n of 1 .. 9");
        for (int n = 1; n <= MOST; n++) {
            GraphTwins x = new GraphTwins();
            due("begin(" + n + ")", x.begin(n), 0);
            due("count(0)", x.count(0), n);
            for (int g = 0; g < 2; g++) {
                due("the last vertex", x.tint(g, n - 1, 1), 0);
                due("one behind it", x.tint(g, n, 1), BAD);
            }
        }
    }

    private static void beginEmptiesFullGraphs() {
        CHECKS.promise(2, "all tints and labels 0");
        for (int g = 0; g < 2; g++) {
            GraphTwins x = Drawing.begun(MOST);
            Drawing.fill(x, g, MOST);
            due("begin(9)", x.begin(MOST), 0);
            due("edges", x.count(1 + g), 0);
            dueAllMarks("full graphs begun anew", x, g, MOST, 0);
        }
    }

    private static void beginBringsNothingBack() {
        CHECKS.promise(2, "all tints and labels 0, also of vertices that were gone");
        for (int g = 0; g < 2; g++) {
            GraphTwins x = Drawing.begun(MOST);
            Drawing.fill(x, g, MOST);
            x.begin(1);
            due("the one vertex left", x.tint(g, 0, 0), 0);
            x.begin(MOST);
            dueAllMarks("full graphs begun smaller and greater", x, g, MOST, 0);
        }
    }

    private static void beginEndsTheNaming() {
        CHECKS.promise(2, "no naming at hand");
        for (int n : new int[] {1, Lively.SIZE, MOST}) {
            GraphTwins x = Lively.made();
            due("count(3) before", x.count(3), 1);
            x.begin(n);
            CHECKS.dueNoNaming("begin(" + n + ")", x);
        }
    }

    // Promise 3

    private static void labelTellsWhatItWas() {
        CHECKS.promise(3, "what it was, for labels 0 .. 3");
        GraphTwins x = Drawing.begun(2);
        for (int was = 0; was < 4; was++) {
            for (int label = 0; label < 4; label++) {
                x.label(0, 0, 1, was);
                due(was + " that becomes " + label, x.label(0, 0, 1, label), was);
                due("and is then", x.label(0, 0, 1, 0), label);
            }
        }
    }

    private static void labelSetsOneLabelOnly() {
        CHECKS.promise(3, "the label from u to v of a graph");
        GraphTwins x = Drawing.begun(3);
        x.label(1, 2, 0, 3);
        dueMarks("the other graph", x, 0, 0, 0, 0, 0, 0, 0, 0, 0, 0);
        dueMarks("its own graph", x, 1, 0, 0, 0, 0, 0, 0, 0, 3, 0);
    }

    private static void labelReachesTheLastVertices() {
        CHECKS.promise(3, "the last vertices of the greatest graphs");
        for (int g = 0; g < 2; g++) {
            GraphTwins x = Drawing.begun(MOST);
            due("label from 8 to 7", x.label(g, 8, 7, 3), 0);
            due("label from 0 to 8", x.label(g, 0, 8, 1), 0);
            due("label from 8 to 7 was", x.label(g, 8, 7, 0), 3);
            due("label from 0 to 8 was", x.label(g, 0, 8, 0), 1);
        }
    }

    private static void labelRefusesGraphs() {
        CHECKS.promise(3, "BAD: no such graph");
        for (int g : Lively.WRONG_GRAPHS) {
            Lively.dueRefused(CHECKS, "label(" + g + ", 0, 1, 1)", BAD, x -> x.label(g, 0, 1, 1));
        }
    }

    private static void labelRefusesVertices() {
        CHECKS.promise(3, "BAD: no such vertices");
        for (int g = 0; g < 2; g++) {
            int graph = g;
            for (int v : Lively.WRONG_VERTICES) {
                Lively.dueRefused(CHECKS, "label from " + v, BAD, x -> x.label(graph, v, 1, 2));
                Lively.dueRefused(CHECKS, "label to " + v, BAD, x -> x.label(graph, 1, v, 2));
                Lively.dueRefused(CHECKS, "label from and to " + v, BAD, x -> x.label(graph, v, v, 2));
            }
        }
    }

    private static void labelRefusesLabels() {
        CHECKS.promise(3, "BAD: no such label");
        for (int g = 0; g < 2; g++) {
            int graph = g;
            for (int label : Lively.WRONG_MARKS) {
                Lively.dueRefused(CHECKS, "label " + label, BAD, x -> x.label(graph, 1, 2, label));
            }
        }
    }

    private static void labelRefusesOneVertexTwice() {
        CHECKS.promise(3, "BAD: u is v");
        for (int g = 0; g < 2; g++) {
            int graph = g;
            for (int label = 0; label < 4; label++) {
                int mark = label;
                Lively.dueRefused(CHECKS, "label from 0 to 0", BAD, x -> x.label(graph, 0, 0, mark));
                Lively.dueRefused(CHECKS, "label from 4 to 4", BAD, x -> x.label(graph, 4, 4, mark));
            }
        }
    }

    private static void labelHasNoPlaceOnOneVertex() {
        CHECKS.promise(3, "BAD: no such vertices, if there is but one");
        GraphTwins x = Drawing.begun(1);
        due("label from 0 to 0", x.label(0, 0, 0, 1), BAD);
        due("label from 0 to 1", x.label(0, 0, 1, 1), BAD);
        due("label from 1 to 0", x.label(1, 1, 0, 1), BAD);
        due("edges", x.count(1) + x.count(2), 0);
    }

    // Promise 4

    private static void tintTellsWhatItWas() {
        CHECKS.promise(4, "what it was, for tints 0 .. 3");
        GraphTwins x = Drawing.begun(1);
        for (int was = 0; was < 4; was++) {
            for (int tint = 0; tint < 4; tint++) {
                x.tint(1, 0, was);
                due(was + " that becomes " + tint, x.tint(1, 0, tint), was);
                due("and is then", x.tint(1, 0, 0), tint);
            }
        }
    }

    private static void tintSetsOneTintOnly() {
        CHECKS.promise(4, "the tint of a vertex");
        GraphTwins x = Drawing.begun(MOST);
        x.tint(0, 8, 3);
        dueAllMarks("the other graph", x, 1, MOST, 0);
        due("its own one", x.tint(0, 8, 0), 3);
        dueAllMarks("its own graph", x, 0, MOST, 0);
    }

    private static void tintRefusesGraphs() {
        CHECKS.promise(4, "BAD: no such graph");
        for (int g : Lively.WRONG_GRAPHS) {
            Lively.dueRefused(CHECKS, "tint(" + g + ", 0, 1)", BAD, x -> x.tint(g, 0, 1));
        }
    }

    private static void tintRefusesVertices() {
        CHECKS.promise(4, "BAD: no such vertex");
        for (int v : Lively.WRONG_VERTICES) {
            Lively.dueRefused(CHECKS, "tint(0, " + v + ", 0)", BAD, x -> x.tint(0, v, 0));
            Lively.dueRefused(CHECKS, "tint(1, " + v + ", 3)", BAD, x -> x.tint(1, v, 3));
        }
    }

    private static void tintRefusesTints() {
        CHECKS.promise(4, "BAD: no such tint");
        for (int tint : Lively.WRONG_MARKS) {
            Lively.dueRefused(CHECKS, "tint(0, 0, " + tint + ")", BAD, x -> x.tint(0, 0, tint));
            Lively.dueRefused(CHECKS, "tint(1, 4, " + tint + ")", BAD, x -> x.tint(1, 4, tint));
        }
    }

    // Promise 5

    /** Vertices 0 and 2 of three, with a label of each kind between any two. */
    private static GraphTwins marked() {
        GraphTwins x = Drawing.begun(3);
        Drawing.tints(x, 1, 1, 2, 3);
        Drawing.labels(x, 1, "012", "103", "230");
        x.label(1, 2, 0, 0);
        return x;
    }

    private static void exchangeMovesAll() {
        CHECKS.promise(5, "with all that they have");
        for (int way = 0; way < 2; way++) {
            GraphTwins x = marked();
            due("exchange of 0 and 2", way == 0 ? x.exchange(1, 0, 2) : x.exchange(1, 2, 0), 0);
            dueMarks("the other graph", x, 0, 0, 0, 0, 0, 0, 0, 0, 0, 0);
            dueMarks("exchanged", x, 1, 3, 3, 0, 2, 3, 1, 1, 2, 1);
        }
        GraphTwins back = marked();
        back.exchange(1, 1, 2);
        back.exchange(1, 1, 2);
        CHECKS.due("exchanged and back", Lively.marks(back, 1), Lively.marks(marked(), 1));
    }

    private static void exchangeMovesTheLabelsBetween() {
        CHECKS.promise(5, "with all that they have, between the two");
        GraphTwins x = Drawing.begun(2);
        x.label(0, 0, 1, 1);
        x.label(0, 1, 0, 2);
        due("exchange(0, 0, 1)", x.exchange(0, 0, 1), 0);
        dueMarks("exchanged", x, 0, 0, 2, 0, 1);
    }

    private static void exchangeOfOneVertexTwice() {
        CHECKS.promise(5, "a vertex with itself");
        for (int v = 0; v < 3; v++) {
            GraphTwins x = marked();
            due("exchange(1, " + v + ", " + v + ")", x.exchange(1, v, v), 0);
            CHECKS.due("what is left", Lively.marks(x, 1), Lively.marks(marked(), 1));
        }
        due("on one vertex", new GraphTwins().exchange(0, 0, 0), 0);
    }

    private static void exchangeReachesTheLastVertices() {
        CHECKS.promise(5, "the first and the last vertex of the greatest graphs");
        for (int g = 0; g < 2; g++) {
            GraphTwins x = Drawing.begun(MOST);
            x.tint(g, 8, 3);
            x.label(g, 8, 4, 2);
            x.label(g, 3, 0, 1);
            due("exchange of 0 and 8", x.exchange(g, 0, 8), 0);
            due("tint of 0", x.tint(g, 0, 0), 3);
            due("label from 0 to 4", x.label(g, 0, 4, 0), 2);
            due("label from 3 to 8", x.label(g, 3, 8, 0), 1);
            dueAllMarks("all else", x, g, MOST, 0);
        }
    }

    private static void exchangeRefusesGraphs() {
        CHECKS.promise(5, "BAD: no such graph");
        for (int g : Lively.WRONG_GRAPHS) {
            Lively.dueRefused(CHECKS, "exchange(" + g + ", 0, 1)", BAD, x -> x.exchange(g, 0, 1));
        }
    }

    private static void exchangeRefusesVertices() {
        CHECKS.promise(5, "BAD: no such vertices");
        for (int g = 0; g < 2; g++) {
            int graph = g;
            for (int v : Lively.WRONG_VERTICES) {
                Lively.dueRefused(CHECKS, "exchange of " + v + " and 0", BAD, x -> x.exchange(graph, v, 0));
                Lively.dueRefused(CHECKS, "exchange of 0 and " + v, BAD, x -> x.exchange(graph, 0, v));
                Lively.dueRefused(CHECKS, "exchange of " + v + " twice", BAD, x -> x.exchange(graph, v, v));
            }
        }
    }

    // Promise 6

    private static void copyOfFullAndEmpty() {
        CHECKS.promise(6, "a graph becomes as the other one is, full or empty");
        for (int g = 0; g < 2; g++) {
            GraphTwins empty = Drawing.begun(MOST);
            Drawing.fill(empty, 1 - g, MOST);
            due("copy(" + g + ") onto an empty one", empty.copy(g), 0);
            dueAllMarks("of a full one", empty, g, MOST, 3);
            GraphTwins full = Drawing.begun(MOST);
            Drawing.fill(full, g, MOST);
            due("copy(" + g + ") onto a full one", full.copy(g), 0);
            dueAllMarks("of an empty one", full, g, MOST, 0);
        }
    }

    private static void copyLeavesTheOtherOne() {
        CHECKS.promise(6, "the other one stays, and each is its own then");
        for (int g = 0; g < 2; g++) {
            GraphTwins x = Drawing.begun(3);
            Drawing.tints(x, 1 - g, 3, 0, 1);
            Drawing.labels(x, 1 - g, "012", "303", "210");
            List<Integer> was = new ArrayList<>(List.of(3, 1, 2, 0, 3, 3, 1, 2, 1));
            x.copy(g);
            due("copied once more", x.copy(g), 0);
            CHECKS.due("the copy, taken away then", Lively.marks(x, g), was);
            CHECKS.due("the other one", Lively.marks(x, 1 - g), was);
        }
    }

    private static void copyOfOneVertex() {
        CHECKS.promise(6, "a graph becomes as the other one is, of one vertex");
        GraphTwins x = new GraphTwins();
        x.tint(1, 0, 2);
        due("copy(0)", x.copy(0), 0);
        due("tint of the copy", x.tint(0, 0, 3), 2);
        due("tint of the other one", x.tint(1, 0, 2), 2);
        due("copy(1)", x.copy(1), 0);
        due("tint copied back", x.tint(1, 0, 0), 3);
    }

    private static void copyRefusesGraphs() {
        CHECKS.promise(6, "BAD: no such graph");
        for (int g : Lively.WRONG_GRAPHS) {
            Lively.dueRefused(CHECKS, "copy(" + g + ")", BAD, x -> x.copy(g));
        }
    }
}
