/** Promises 9 to 11, each sentence of theirs, and of the terms that they use, that names a boundary case. */
public final class NamingBoundariesTest {
    private static final int BAD = GraphTwins.BAD;
    private static final int MOST = 9;

    private static final Checks CHECKS = new Checks();

    public static void main(String[] args) {
        twinsOfOneVertex();
        twinsOfTheGreatestGraphs();
        twinsLeadFromGraphZeroToGraphOne();
        twinsTakeTheFirstNaming();
        twinsBeginAnew();
        twinsNeedEachTint();
        twinsNeedEachLabel();
        twinsNeedEachDirection();
        twinsOfGraphsOfOneColour();
        twinsThatFailLeaveNone();
        imageRefusesVertices();
        imageWithNoNaming();
        imageEndsBehindBegin();
        imageEndsBehindEachChange();
        imageEndsBehindWhatWasThereAlready();
        imageStaysBehindRefusedChanges();
        imageStaysBehindQuestions();
        nextGoesThroughAll();
        nextOfOneNaming();
        nextOfTheGreatestGraphs();
        nextBehindTheLast();
        nextWithNoNaming();
        CHECKS.end();
    }

    private static void due(String call, long got, long want) {
        CHECKS.due(call, got, want);
    }

    // Promise 9

    private static void twinsOfOneVertex() {
        CHECKS.promise(9, "of one vertex");
        GraphTwins x = new GraphTwins();
        due("twins()", x.twins(), 1);
        CHECKS.dueNaming("the one naming", x, 0);
        x.tint(1, 0, 3);
        due("twins() of two tints", x.twins(), 0);
    }

    private static void twinsOfTheGreatestGraphs() {
        CHECKS.promise(9, "of nine vertices, empty or full");
        GraphTwins x = Drawing.begun(MOST);
        due("twins() of empty ones", x.twins(), 1);
        CHECKS.dueNaming("empty", x, 0, 1, 2, 3, 4, 5, 6, 7, 8);
        Drawing.fill(x, 0, MOST);
        due("twins() of a full one and an empty one", x.twins(), 0);
        x.copy(1);
        due("twins() of full ones", x.twins(), 1);
        CHECKS.dueNaming("full", x, 0, 1, 2, 3, 4, 5, 6, 7, 8);
    }

    private static void twinsLeadFromGraphZeroToGraphOne() {
        CHECKS.promise(9, "leads graph 0 to graph 1");
        GraphTwins x = Drawing.begun(3);
        Drawing.tints(x, 0, 1, 2, 3);
        Drawing.tints(x, 1, 3, 1, 2);
        due("twins()", x.twins(), 1);
        CHECKS.dueNaming("by tints", x, 1, 2, 0);
        x.begin(4);
        Drawing.ladder(x, 0, 4, 2);
        Drawing.labels(x, 1, "0000", "2020", "2000", "2220");
        due("twins()", x.twins(), 1);
        CHECKS.dueNaming("by labels", x, 0, 2, 1, 3);
        x.begin(3);
        x.label(0, 0, 1, 1);
        x.label(0, 1, 2, 2);
        x.label(1, 1, 2, 1);
        x.label(1, 2, 0, 2);
        due("twins()", x.twins(), 1);
        CHECKS.dueNaming("by a chain", x, 1, 2, 0);
    }

    private static void twinsTakeTheFirstNaming() {
        CHECKS.promise(9, "the first one is at hand then");
        GraphTwins x = Drawing.begun(4);
        Drawing.cycle(x, 0, 0, 4);
        Drawing.edge(x, 1, 0, 1, 1);
        Drawing.edge(x, 1, 0, 2, 1);
        Drawing.edge(x, 1, 3, 1, 1);
        Drawing.edge(x, 1, 3, 2, 1);
        due("twins()", x.twins(), 1);
        CHECKS.dueNaming("of eight", x, 0, 1, 3, 2);
        x.begin(MOST);
        x.tint(0, 0, 1);
        x.tint(0, 8, 1);
        x.tint(1, 4, 1);
        x.tint(1, 5, 1);
        due("twins()", x.twins(), 1);
        CHECKS.dueNaming("of many", x, 4, 0, 1, 2, 3, 6, 7, 8, 5);
    }

    private static void twinsBeginAnew() {
        CHECKS.promise(9, "the first one is at hand then, also behind next()");
        GraphTwins x = Drawing.begun(3);
        x.twins();
        x.next();
        x.next();
        CHECKS.dueNaming("the third one", x, 1, 0, 2);
        due("twins()", x.twins(), 1);
        CHECKS.dueNaming("the first one again", x, 0, 1, 2);
        due("next()", x.next(), 1);
        CHECKS.dueNaming("the second one again", x, 0, 2, 1);
    }

    private static void twinsNeedEachTint() {
        CHECKS.promise(9, "each vertex has the tint that its image has");
        for (int v = 0; v < MOST; v++) {
            for (int tint = 1; tint < 4; tint++) {
                GraphTwins x = Drawing.begun(MOST);
                x.tint(0, v, tint);
                due("twins() with a tint", x.twins(), 0);
                x.tint(1, 8 - v, tint % 3 + 1);
                due("twins() with another tint", x.twins(), 0);
                x.tint(1, 8 - v, tint);
                due("twins() with the same tint", x.twins(), 1);
                due("its image", x.image(v), 8 - v);
            }
        }
    }

    private static void twinsNeedEachLabel() {
        CHECKS.promise(9, "each label is that between the images");
        for (int u = 0; u < 4; u++) {
            for (int v = 0; v < 4; v++) {
                if (u != v) {
                    dueTwinsByLabel(u, v);
                }
            }
        }
    }

    private static void dueTwinsByLabel(int u, int v) {
        GraphTwins x = Drawing.begun(4);
        Drawing.labels(x, 0, "0123", "3012", "2301", "1320");
        x.copy(1);
        due("twins() of the same", x.twins(), 1);
        int was = x.label(1, u, v, 0);
        x.label(1, u, v, (was + 1) % 4);
        due("twins() with another label from " + u + " to " + v, x.twins(), 0);
        x.label(1, u, v, was);
        due("twins() with the label back", x.twins(), 1);
    }

    private static void twinsNeedEachDirection() {
        CHECKS.promise(9, "each label from v to w is that from its image to the other one's");
        GraphTwins x = Drawing.begun(2);
        x.label(0, 0, 1, 1);
        x.label(1, 1, 0, 1);
        due("twins()", x.twins(), 1);
        CHECKS.dueNaming("an edge turned", x, 1, 0);
        x.begin(2);
        Drawing.tints(x, 0, 0, 1);
        Drawing.tints(x, 1, 0, 1);
        x.label(0, 0, 1, 1);
        x.label(1, 1, 0, 1);
        due("twins() of an edge turned between two tints", x.twins(), 0);
        Drawing.crossedWheels(x);
        due("twins() of cycles one way", x.twins(), 1);
        for (int[] naming : new int[][] {{0, 2, 1, 3, 4}, {1, 0, 4, 2, 3}, {2, 3, 0, 4, 1}, {3, 4, 2, 1, 0}}) {
            CHECKS.dueNaming("a cycle turned", x, naming);
            due("next()", x.next(), 1);
        }
        CHECKS.dueNaming("a cycle turned", x, 4, 1, 3, 0, 2);
        due("next() behind the last one", x.next(), 0);
    }

    private static void twinsOfGraphsOfOneColour() {
        CHECKS.promise(9, "whether some naming leads, where colours do not tell");
        GraphTwins x = Drawing.begun(MOST);
        Drawing.cycle(x, 0, 0, 9);
        Drawing.cycle(x, 1, 0, 3);
        Drawing.cycle(x, 1, 3, 6);
        due("colours()", x.colours(), 1);
        due("twins()", x.twins(), 0);
        CHECKS.dueNoNaming("a cycle, and two", x);
    }

    private static void twinsThatFailLeaveNone() {
        CHECKS.promise(9, "otherwise none");
        GraphTwins x = Lively.made();
        x.tint(1, 0, 0);
        due("twins()", x.twins(), 0);
        CHECKS.dueNoNaming("behind twins() that failed", x);
        due("twins() once more", x.twins(), 0);
        CHECKS.dueNoNaming("behind twins() that failed twice", x);
    }

    // Promise 10

    private static void imageRefusesVertices() {
        CHECKS.promise(10, "BAD: there is none such");
        for (int v : Lively.WRONG_VERTICES) {
            Lively.dueRefused(CHECKS, "image(" + v + ")", BAD, x -> x.image(v));
        }
        GraphTwins x = Drawing.begun(MOST);
        x.twins();
        due("image(8) of nine", x.image(8), 8);
        due("image(9) of nine", x.image(9), BAD);
        x.begin(1);
        x.twins();
        due("image(0) of one", x.image(0), 0);
        due("image(1) of one", x.image(1), BAD);
    }

    private static void imageWithNoNaming() {
        CHECKS.promise(10, "BAD: no naming at hand");
        CHECKS.dueNoNaming("a new object", new GraphTwins());
        CHECKS.dueNoNaming("behind begin", Drawing.begun(MOST));
        GraphTwins x = Drawing.begun(2);
        x.tint(0, 0, 1);
        x.twins();
        CHECKS.dueNoNaming("behind twins() that failed", x);
        x.copy(1);
        x.twins();
        due("image(1)", x.image(1), 1);
        x.next();
        CHECKS.dueNoNaming("behind next() that failed", x);
    }

    private static void imageEndsBehindBegin() {
        CHECKS.promise(10, "begin() ends it");
        for (int n = 1; n <= MOST; n++) {
            GraphTwins x = Lively.made();
            due("begin(" + n + ")", x.begin(n), 0);
            CHECKS.dueNoNaming("behind begin(" + n + ")", x);
        }
    }

    private static void dueEnds(String name, int want, Lively.Call call) {
        GraphTwins x = Lively.made();
        due("count(3) before", x.count(3), 1);
        due(name, call.on(x), want);
        CHECKS.dueNoNaming("behind " + name, x);
    }

    private static void imageEndsBehindEachChange() {
        CHECKS.promise(10, "each label(), tint(), exchange(), copy() ends it");
        dueEnds("label(0, 0, 1, 1)", 3, x -> x.label(0, 0, 1, 1));
        dueEnds("label(1, 3, 4, 0)", 2, x -> x.label(1, 3, 4, 0));
        dueEnds("tint(0, 4, 0)", 1, x -> x.tint(0, 4, 0));
        dueEnds("tint(1, 3, 0)", 3, x -> x.tint(1, 3, 0));
        dueEnds("exchange(0, 0, 1)", 0, x -> x.exchange(0, 0, 1));
        dueEnds("exchange(1, 3, 4)", 0, x -> x.exchange(1, 3, 4));
        dueEnds("copy(0)", 0, x -> x.copy(0));
        dueEnds("copy(1)", 0, x -> x.copy(1));
    }

    private static void imageEndsBehindWhatWasThereAlready() {
        CHECKS.promise(10, "also if it sets what was there already");
        dueEnds("label(0, 0, 1, 3)", 3, x -> x.label(0, 0, 1, 3));
        dueEnds("label(1, 3, 4, 2)", 2, x -> x.label(1, 3, 4, 2));
        dueEnds("tint(0, 4, 1)", 1, x -> x.tint(0, 4, 1));
        dueEnds("tint(1, 3, 3)", 3, x -> x.tint(1, 3, 3));
        dueEnds("exchange(0, 1, 1)", 0, x -> x.exchange(0, 1, 1));
        dueEnds("exchange(1, 4, 4)", 0, x -> x.exchange(1, 4, 4));
        dueEnds("exchange of vertices that are alike", 0, x -> x.exchange(0, 3, 4));
        for (int g = 0; g < 2; g++) {
            GraphTwins x = Drawing.begun(3);
            x.twins();
            due("copy of the same", x.copy(g), 0);
            CHECKS.dueNoNaming("behind copy of the same", x);
        }
    }

    private static void imageStaysBehindRefusedChanges() {
        CHECKS.promise(10, "a call that is refused does not end it");
        GraphTwins x = Lively.made();
        int image = x.image(3);
        due("label from a vertex to itself", x.label(0, 1, 1, 0), BAD);
        due("label of a wrong label", x.label(0, 0, 1, 4), BAD);
        due("label of a wrong vertex", x.label(0, 0, 5, 1), BAD);
        due("label of a wrong graph", x.label(2, 0, 1, 1), BAD);
        due("tint of a wrong tint", x.tint(0, 0, -1), BAD);
        due("tint of a wrong vertex", x.tint(0, -1, 0), BAD);
        due("exchange of a wrong vertex", x.exchange(1, 5, 5), BAD);
        due("copy of a wrong graph", x.copy(-1), BAD);
        due("begin of a wrong number", x.begin(0), BAD);
        due("count(3)", x.count(3), 1);
        due("image(3)", x.image(3), image);
        due("next()", x.next(), 1);
    }

    private static void imageStaysBehindQuestions() {
        CHECKS.promise(10, "nothing else ends it");
        GraphTwins x = Lively.made();
        int[] naming = new int[Lively.SIZE];
        for (int v = 0; v < Lively.SIZE; v++) {
            naming[v] = x.image(v);
        }
        Lively.answers(x);
        CHECKS.dueNaming("behind all questions", x, naming);
        for (int number = 4; number <= 6; number++) {
            due("next() to naming " + number + " of six", x.next(), 1);
        }
        due("next() behind the last one", x.next(), 0);
    }

    // Promise 11

    /** The namings that lead an empty graph to another are all there are, in order. */
    private static void nextGoesThroughAll() {
        CHECKS.promise(11, "the next naming behind the one at hand");
        GraphTwins x = Drawing.begun(4);
        due("twins()", x.twins(), 1);
        int last = -1;
        for (int number = 1; number <= 24; number++) {
            int naming = 0;
            for (int v = 0; v < 4; v++) {
                naming = naming * 10 + x.image(v);
            }
            due("naming " + number + " is behind the one before", naming > last ? 1 : 0, 1);
            last = naming;
            due("next() behind naming " + number, x.next(), number < 24 ? 1 : 0);
        }
        due("the last one", last, 3210);
    }

    private static void nextOfOneNaming() {
        CHECKS.promise(11, "0: there is none, behind the only one");
        GraphTwins x = new GraphTwins();
        x.twins();
        due("next() of one vertex", x.next(), 0);
        CHECKS.dueNoNaming("of one vertex", x);
        x.begin(MOST);
        Drawing.ladder(x, 0, MOST, 1);
        x.copy(1);
        x.exchange(1, 0, 8);
        due("twins()", x.twins(), 1);
        CHECKS.dueNaming("the only one", x, 8, 1, 2, 3, 4, 5, 6, 7, 0);
        due("next()", x.next(), 0);
        CHECKS.dueNoNaming("behind the only one", x);
    }

    private static void nextOfTheGreatestGraphs() {
        CHECKS.promise(11, "the next naming of nine vertices");
        GraphTwins x = Drawing.begun(MOST);
        Drawing.wheel(x, 0, MOST, 3);
        Drawing.wheel(x, 1, MOST, 3);
        due("twins()", x.twins(), 1);
        for (int turn = 0; turn < MOST; turn++) {
            for (int v = 0; v < MOST; v++) {
                due("turned by " + turn + ": image(" + v + ")", x.image(v), (v + turn) % MOST);
            }
            due("next()", x.next(), turn < 8 ? 1 : 0);
        }
        x.begin(MOST);
        x.twins();
        due("next() of empty graphs", x.next(), 1);
        CHECKS.dueNaming("only the last two differ", x, 0, 1, 2, 3, 4, 5, 6, 8, 7);
    }

    private static void nextBehindTheLast() {
        CHECKS.promise(11, "0: there is none, and none is at hand");
        GraphTwins x = Drawing.begun(2);
        x.twins();
        due("next()", x.next(), 1);
        CHECKS.dueNaming("the last one", x, 1, 0);
        due("next() behind the last one", x.next(), 0);
        CHECKS.dueNoNaming("behind the last one", x);
        due("next() once more", x.next(), BAD);
        due("twins()", x.twins(), 1);
        CHECKS.dueNaming("the first one again", x, 0, 1);
    }

    private static void nextWithNoNaming() {
        CHECKS.promise(11, "BAD: none is");
        due("a new object: next()", new GraphTwins().next(), BAD);
        GraphTwins x = Lively.made();
        x.tint(0, 0, 3);
        for (int i = 0; i < 3; i++) {
            due("next()", x.next(), BAD);
            due("count(3)", x.count(3), 0);
        }
        due("twins()", x.twins(), 1);
    }
}
