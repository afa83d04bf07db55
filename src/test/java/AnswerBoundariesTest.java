import java.util.List;

/** Promises 12 to 16, and the object's 512 calls: each sentence that names a boundary case. */
public final class AnswerBoundariesTest {
    private static final int BAD = GraphTwins.BAD;
    private static final int BAD_COMPARE = -2;
    private static final int MOST = 9;
    private static final int MOST_CALLS = 512;

    private static final Checks CHECKS = new Checks();

    public static void main(String[] args) {
        symmetriesAtLeastOne();
        symmetriesAtMostAll();
        symmetriesKeepEachDirection();
        symmetriesOfEachGraph();
        symmetriesRefuseGraphs();
        orbitOfAVertexAlone();
        orbitOfAll();
        orbitWhereColoursDoNotTell();
        orbitOfEachGraph();
        orbitRefusesGraphs();
        orbitRefusesVertices();
        formOfOneVertex();
        formOfTwoVertices();
        formOfEmptyAndFull();
        formHasTheLesserNumberFirst();
        formOfTheLastVertex();
        formWhereMuchIsTheSameAtFirst();
        formOfEachGraph();
        formRefusesGraphs();
        formRefusesNumbers();
        compareByTheFirstNumber();
        compareByTheLastNumber();
        compareOfTheSame();
        compareRefusesGraphs();
        countOfVertices();
        countOfEdges();
        countOfNamings();
        countOfNumbers();
        countRefusesNumbers();
        lastCall();
        CHECKS.end();
    }

    private static void due(String call, long got, long want) {
        CHECKS.due(call, got, want);
    }

    // Promise 12

    private static void symmetriesAtLeastOne() {
        CHECKS.promise(12, "the least number");
        due("of one vertex", new GraphTwins().symmetries(0), 1);
        for (int n = 2; n <= MOST; n++) {
            GraphTwins x = Drawing.begun(n);
            Drawing.ladder(x, 1, n, 3);
            due("of " + n + " vertices that are not alike", x.symmetries(1), 1);
        }
    }

    private static void symmetriesAtMostAll() {
        CHECKS.promise(12, "the greatest number");
        int all = 1;
        for (int n = 1; n <= MOST; n++) {
            all *= n;
            GraphTwins x = Drawing.begun(n);
            due("of an empty graph of " + n, x.symmetries(0), all);
            Drawing.fill(x, 0, n);
            due("of a full graph of " + n, x.symmetries(0), all);
        }
        due("of nine vertices", all, 362880);
    }

    private static void symmetriesKeepEachDirection() {
        CHECKS.promise(12, "a naming that leads g to itself");
        GraphTwins x = Drawing.begun(MOST);
        Drawing.wheel(x, 0, MOST, 2);
        due("of a cycle one way", x.symmetries(0), 9);
        Drawing.crossedWheels(x);
        due("of a cycle one way, numbered crosswise", x.symmetries(0), 5);
        due("of another one", x.symmetries(1), 5);
        x.begin(MOST);
        Drawing.cycle(x, 0, 0, MOST);
        due("of a cycle both ways", x.symmetries(0), 18);
        x.tint(0, 8, 1);
        due("of a cycle with a tint", x.symmetries(0), 2);
        x.label(0, 0, 1, 3);
        due("of a cycle with a tint and a label", x.symmetries(0), 1);
    }

    private static void symmetriesOfEachGraph() {
        CHECKS.promise(12, "of a graph as it is");
        GraphTwins x = Drawing.begun(3);
        x.tint(0, 1, 1);
        due("graph 0", x.symmetries(0), 2);
        due("graph 1", x.symmetries(1), 6);
        x.exchange(0, 0, 1);
        due("behind exchange", x.symmetries(0), 2);
        due("behind exchange", x.orbit(0, 2), 1);
        x.copy(1);
        due("behind copy", x.symmetries(1), 2);
        x.label(1, 1, 2, 1);
        due("behind label", x.symmetries(1), 1);
        due("the other one", x.symmetries(0), 2);
        x.begin(4);
        due("behind begin", x.symmetries(1), 24);
    }

    private static void symmetriesRefuseGraphs() {
        CHECKS.promise(12, "BAD: no such graph");
        for (int g : Lively.WRONG_GRAPHS) {
            Lively.dueRefused(CHECKS, "symmetries(" + g + ")", BAD, x -> x.symmetries(g));
        }
    }

    // Promise 13

    private static void orbitOfAVertexAlone() {
        CHECKS.promise(13, "the least vertex, of a vertex that is led to itself alone");
        GraphTwins x = Drawing.begun(MOST);
        Drawing.ladder(x, 0, MOST, 1);
        for (int v = 0; v < MOST; v++) {
            due("orbit(0, " + v + ")", x.orbit(0, v), v);
        }
        due("of one vertex", new GraphTwins().orbit(1, 0), 0);
    }

    private static void orbitOfAll() {
        CHECKS.promise(13, "the least vertex, of all that there are");
        GraphTwins x = Drawing.begun(MOST);
        Drawing.wheel(x, 1, MOST, 1);
        for (int v = 0; v < MOST; v++) {
            due("empty: orbit(0, " + v + ")", x.orbit(0, v), 0);
            due("a cycle one way: orbit(1, " + v + ")", x.orbit(1, v), 0);
        }
    }

    private static void orbitWhereColoursDoNotTell() {
        CHECKS.promise(13, "all to which its symmetries lead it, no others of its colour");
        GraphTwins x = Drawing.begun(MOST);
        Drawing.cycle(x, 0, 0, 5);
        Drawing.cycle(x, 0, 5, 4);
        x.exchange(0, 0, 8);
        for (int v = 0; v < MOST; v++) {
            due("colour", x.colour(0, v), x.colour(0, 0));
            due("orbit(0, " + v + ")", x.orbit(0, v), v == 0 || v >= 5 && v < 8 ? 0 : 1);
        }
    }

    private static void orbitOfEachGraph() {
        CHECKS.promise(13, "of a graph as it is");
        GraphTwins x = Drawing.begun(4);
        x.tint(1, 0, 2);
        due("graph 0", x.orbit(0, 3), 0);
        due("graph 1", x.orbit(1, 3), 1);
        x.tint(1, 1, 2);
        due("behind tint", x.orbit(1, 3), 2);
        due("behind tint", x.orbit(1, 1), 0);
        x.copy(1);
        due("behind copy", x.orbit(1, 3), 0);
        x.label(1, 0, 3, 1);
        due("behind label", x.orbit(1, 3), 3);
        due("behind label", x.orbit(1, 2), 1);
    }

    private static void orbitRefusesGraphs() {
        CHECKS.promise(13, "BAD: no such graph");
        for (int g : Lively.WRONG_GRAPHS) {
            Lively.dueRefused(CHECKS, "orbit(" + g + ", 0)", BAD, x -> x.orbit(g, 0));
        }
    }

    private static void orbitRefusesVertices() {
        CHECKS.promise(13, "BAD: no such vertex");
        for (int v : Lively.WRONG_VERTICES) {
            Lively.dueRefused(CHECKS, "orbit(0, " + v + ")", BAD, x -> x.orbit(0, v));
            Lively.dueRefused(CHECKS, "orbit(1, " + v + ")", BAD, x -> x.orbit(1, v));
        }
    }

    // Promise 14

    private static void formOfOneVertex() {
        CHECKS.promise(14, "of one vertex, its tint alone");
        GraphTwins x = new GraphTwins();
        for (int tint = 0; tint < 4; tint++) {
            x.tint(1, 0, tint);
            CHECKS.dueForm("tint " + tint, x, 1, tint);
        }
    }

    /** A tint, then a tint, the label from the second to the first and that back: the least of two ways. */
    private static void formOfTwoVertices() {
        CHECKS.promise(14, "the label from naming(i) to naming(j), and that from naming(j) to naming(i)");
        for (int out = 0; out < 4; out++) {
            for (int back = 0; back < 4; back++) {
                GraphTwins x = Drawing.begun(2);
                x.label(0, 0, 1, out);
                x.label(0, 1, 0, back);
                CHECKS.dueForm("one tint", x, 0, 0, 0, Math.min(out, back), Math.max(out, back));
                x.tint(0, 1, 1);
                CHECKS.dueForm("the lesser tint first", x, 0, 0, 1, back, out);
                x.tint(0, 0, 2);
                CHECKS.dueForm("the lesser tint first", x, 0, 1, 2, out, back);
            }
        }
    }

    private static void formOfEmptyAndFull() {
        CHECKS.promise(14, "of nine vertices, empty or full");
        GraphTwins x = Drawing.begun(MOST);
        Drawing.fill(x, 1, MOST);
        for (int i = 0; i < 81; i++) {
            due("empty: form(0, " + i + ")", x.form(0, i), 0);
            due("full: form(1, " + i + ")", x.form(1, i), 3);
        }
        due("empty: form(0, 81)", x.form(0, 81), BAD);
        due("full: form(1, 81)", x.form(1, 81), BAD);
    }

    private static void formHasTheLesserNumberFirst() {
        CHECKS.promise(14, "where two differ first, the lesser number is less");
        GraphTwins x = Drawing.begun(3);
        Drawing.tints(x, 0, 1, 0, 1);
        Drawing.labels(x, 0, "030", "303", "330");
        CHECKS.dueForm("the tints before the labels", x, 0, 0, 1, 3, 3, 1, 3, 3, 0, 3);
        x.begin(3);
        Drawing.labels(x, 0, "033", "301", "310");
        CHECKS.dueForm("the least labels before others", x, 0, 0, 0, 1, 1, 0, 3, 3, 3, 3);
        x.begin(3);
        Drawing.wheel(x, 0, 3, 1);
        CHECKS.dueForm("a cycle one way", x, 0, 0, 0, 0, 1, 0, 1, 0, 0, 1);
        x.begin(MOST);
        Drawing.fill(x, 0, MOST);
        x.tint(0, 8, 2);
        due("the lesser tint is first", x.form(0, 0), 2);
        due("and alone", x.form(0, 1), 3);
        x.tint(0, 8, 3);
        x.label(0, 8, 0, 2);
        due("the lesser label is as early as can be", x.form(0, 2), 2);
        due("and its other direction is not", x.form(0, 3), 3);
    }

    private static void formOfTheLastVertex() {
        CHECKS.promise(14, "the numbers of the last of nine vertices");
        GraphTwins x = Drawing.begun(MOST);
        x.tint(0, 3, 3);
        x.tint(1, 5, 2);
        x.label(1, 5, 0, 1);
        for (int i = 0; i < 81; i++) {
            due("a tint alone: form(0, " + i + ")", x.form(0, i), i == 64 ? 3 : 0);
            due("a tint and an edge: form(1, " + i + ")", x.form(1, i), i == 64 ? 2 : i == 79 ? 1 : 0);
        }
    }

    /** Of both graphs the first four vertices may be many, none with an edge to another. */
    private static void formWhereMuchIsTheSameAtFirst() {
        CHECKS.promise(14, "the least of these rows of all namings");
        GraphTwins x = Drawing.begun(MOST);
        Drawing.cycle(x, 0, 0, 9);
        Drawing.cycle(x, 1, 0, 3);
        Drawing.cycle(x, 1, 3, 6);
        String start = "0" + "000" + "00000" + "0000000" + "000000011";
        String end = "011001100000000" + "01111000000000000";
        CHECKS.dueForm("a cycle", x, 0, digits(start + "00000110011" + "0001100110000" + end));
        CHECKS.dueForm("two cycles", x, 1, digits(start + "00000001111" + "0001111000000" + end));
    }

    private static int[] digits(String text) {
        int[] digits = new int[text.length()];
        for (int i = 0; i < digits.length; i++) {
            digits[i] = text.charAt(i) - '0';
        }
        return digits;
    }

    private static void formOfEachGraph() {
        CHECKS.promise(14, "of a graph as it is");
        GraphTwins x = Drawing.begun(2);
        CHECKS.dueForm("empty", x, 0, 0, 0, 0, 0);
        x.label(0, 0, 1, 2);
        CHECKS.dueForm("behind label", x, 0, 0, 0, 0, 2);
        CHECKS.dueForm("the other one", x, 1, 0, 0, 0, 0);
        x.tint(0, 1, 3);
        CHECKS.dueForm("behind tint", x, 0, 0, 3, 0, 2);
        x.exchange(0, 0, 1);
        CHECKS.dueForm("behind exchange", x, 0, 0, 3, 0, 2);
        x.copy(1);
        CHECKS.dueForm("behind copy", x, 1, 0, 3, 0, 2);
        x.begin(1);
        CHECKS.dueForm("behind begin", x, 1, 0);
    }

    private static void formRefusesGraphs() {
        CHECKS.promise(14, "BAD: no such graph");
        for (int g : Lively.WRONG_GRAPHS) {
            Lively.dueRefused(CHECKS, "form(" + g + ", 0)", BAD, x -> x.form(g, 0));
        }
    }

    private static void formRefusesNumbers() {
        CHECKS.promise(14, "BAD: no such number");
        for (int i : new int[] {-1, 25, 26, 80, 81, 65536, Integer.MIN_VALUE, Integer.MAX_VALUE}) {
            Lively.dueRefused(CHECKS, "form(0, " + i + ")", BAD, x -> x.form(0, i));
            Lively.dueRefused(CHECKS, "form(1, " + i + ")", BAD, x -> x.form(1, i));
        }
        for (int n = 1; n <= MOST; n++) {
            GraphTwins x = Drawing.begun(n);
            due("the last number of " + n + " vertices", x.form(0, n * n - 1), 0);
            due("one behind it", x.form(0, n * n), BAD);
            due("one before the first", x.form(0, -1), BAD);
        }
    }

    // Promise 15

    private static void compareByTheFirstNumber() {
        CHECKS.promise(15, "less (- 1) or greater (1) by the first number");
        GraphTwins x = new GraphTwins();
        x.tint(1, 0, 3);
        CHECKS.dueCompared("one vertex", x, -1);
        x.tint(0, 0, 3);
        CHECKS.dueCompared("one vertex", x, 0);
        x.tint(1, 0, 2);
        CHECKS.dueCompared("one vertex", x, 1);
        x.begin(MOST);
        Drawing.fill(x, 0, MOST);
        x.tint(0, 8, 0);
        Drawing.tints(x, 1, 1, 1, 1, 1, 1, 1, 1, 1, 1);
        CHECKS.dueCompared("one lesser tint, all else greater", x, -1);
        x.tint(0, 8, 2);
        CHECKS.dueCompared("no lesser tint", x, 1);
    }

    private static void compareByTheLastNumber() {
        CHECKS.promise(15, "less (- 1) or greater (1) by the last number");
        for (int n = 2; n <= MOST; n++) {
            GraphTwins x = Drawing.begun(n);
            x.tint(0, n - 1, 1);
            x.tint(1, 0, 1);
            CHECKS.dueCompared("the same", x, 0);
            x.label(0, 0, n - 1, 2);
            CHECKS.dueCompared("an edge to the last one", x, 1);
            x.label(1, 1, 0, 3);
            CHECKS.dueCompared("a greater edge to the last one", x, -1);
        }
    }

    private static void compareOfTheSame() {
        CHECKS.promise(15, "the same (0)");
        CHECKS.dueCompared("a new object", new GraphTwins(), 0);
        CHECKS.dueCompared("twins", Lively.made(), 0);
        GraphTwins x = Drawing.begun(MOST);
        Drawing.cycle(x, 0, 0, 9);
        Drawing.cycle(x, 1, 0, 3);
        Drawing.cycle(x, 1, 3, 6);
        CHECKS.dueCompared("a cycle and two, of as many edges, are not", x, 1);
        x.copy(0);
        x.exchange(0, 2, 7);
        CHECKS.dueCompared("two cycles, exchanged", x, 0);
    }

    private static void compareRefusesGraphs() {
        CHECKS.promise(15, "BAD (here - 2): no such graph");
        for (int g : Lively.WRONG_GRAPHS) {
            Lively.dueRefused(CHECKS, "compare(" + g + ")", BAD_COMPARE, x -> x.compare(g));
        }
    }

    // Promise 16

    private static void countOfVertices() {
        CHECKS.promise(16, "0 n");
        due("of a new object", new GraphTwins().count(0), 1);
        for (int n = 1; n <= MOST; n++) {
            due("behind begin", Drawing.begun(n).count(0), n);
        }
    }

    private static void countOfEdges() {
        CHECKS.promise(16, "1 edges (labels above 0) of graph 0, 2 of graph 1");
        for (int g = 0; g < 2; g++) {
            GraphTwins x = Drawing.begun(MOST);
            due("of an empty one", x.count(1 + g), 0);
            Drawing.fill(x, g, MOST);
            due("of a full one", x.count(1 + g), 72);
            due("of the other one", x.count(2 - g), 0);
            x.label(g, 8, 0, 0);
            due("without one", x.count(1 + g), 71);
            x.label(g, 0, 8, 1);
            due("of the least label above 0", x.count(1 + g), 71);
            x.copy(1 - g);
            due("of a copy", x.count(2 - g), 71);
        }
        GraphTwins x = Drawing.begun(2);
        Drawing.tints(x, 0, 3, 3);
        due("tints are no edges", x.count(1), 0);
        x.label(0, 1, 0, 3);
        due("one way", x.count(1), 1);
        x.label(0, 0, 1, 3);
        due("both ways", x.count(1), 2);
    }

    private static void countOfNamings() {
        CHECKS.promise(16, "3 whether a naming is at hand (1 or 0)");
        GraphTwins x = Drawing.begun(2);
        due("before twins()", x.count(3), 0);
        x.twins();
        due("behind twins()", x.count(3), 1);
        x.next();
        due("at the last one", x.count(3), 1);
        x.next();
        due("behind the last one", x.count(3), 0);
        x.twins();
        x.tint(0, 0, 1);
        due("behind a change", x.count(3), 0);
        x.twins();
        due("behind twins() that failed", x.count(3), 0);
    }

    private static void countOfNumbers() {
        CHECKS.promise(16, "4 numbers of a form");
        for (int n = 1; n <= MOST; n++) {
            GraphTwins x = Drawing.begun(n);
            due("of " + n, x.count(4), n * n);
        }
    }

    private static void countRefusesNumbers() {
        CHECKS.promise(16, "BAD: another number");
        for (int which : new int[] {-1, 5, 6, 8, Integer.MIN_VALUE, Integer.MAX_VALUE}) {
            Lively.dueRefused(CHECKS, "count(" + which + ")", BAD, x -> x.count(which));
        }
    }

    // What it is

    /** The namings of six vertices last for 512 calls: 2 to begin, 504 to go on, 6 to ask. */
    private static void lastCall() {
        CHECKS.promise(11, "an object is used for at most 512 calls");
        GraphTwins x = Drawing.begun(6);
        x.twins();
        for (int call = 3; call <= MOST_CALLS - 6; call++) {
            due("call " + call, x.next(), 1);
        }
        int[] naming = {4, 1, 0, 2, 3, 5};
        for (int v = 0; v < 6; v++) {
            due("image(" + v + ") as call " + (MOST_CALLS - 5 + v), x.image(v), naming[v]);
        }
        // What is answered from here on is free, but nothing is thrown.
        List<Integer> free = Lively.answers(x);
        due("answers there are", free.isEmpty() ? 0 : 1, 1);
    }
}
