/** Promises 7 and 8, each sentence of theirs, and of the terms that they use, that names a boundary case. */
public final class ColourBoundariesTest {
    private static final int BAD = GraphTwins.BAD;
    private static final int MOST = 9;

    private static final Checks CHECKS = new Checks();

    public static void main(String[] args) {
        coloursAtLeastOne();
        coloursAtMostEighteen();
        coloursOfBothGraphs();
        coloursOfOneVertex();
        coloursInManyRounds();
        coloursOfOneGraphInManyRounds();
        coloursThatNoRoundParts();
        coloursBehindEachChange();
        colourNumbersHaveNoGaps();
        colourIsFirstByTint();
        colourByEachLabelPair();
        colourByLabelsBeforeColours();
        colourByColoursInOrder();
        colourOfMoreIsBefore();
        colourCountsItsOwnGraphOnly();
        colourRefusesGraphs();
        colourRefusesVertices();
        CHECKS.end();
    }

    private static void due(String call, long got, long want) {
        CHECKS.due(call, got, want);
    }

    private static void dueColours(String name, GraphTwins x, int g, int... colours) {
        for (int v = 0; v < colours.length; v++) {
            due(name + ": colour(" + g + ", " + v + ")", x.colour(g, v), colours[v]);
        }
    }

    // Promise 7

    private static void coloursAtLeastOne() {
        CHECKS.promise(7, "the least number");
        for (int n = 1; n <= MOST; n++) {
            due("colours() of empty graphs of " + n, Drawing.begun(n).colours(), 1);
        }
        GraphTwins full = Drawing.begun(MOST);
        Drawing.fill(full, 0, MOST);
        full.copy(1);
        due("colours() of full graphs", full.colours(), 1);
    }

    private static void coloursAtMostEighteen() {
        CHECKS.promise(7, "the greatest number");
        GraphTwins x = Drawing.begun(MOST);
        Drawing.ladder(x, 0, MOST, 1);
        Drawing.ladder(x, 1, MOST, 3);
        due("colours()", x.colours(), 18);
        dueColours("the lesser label", x, 0, 0, 1, 2, 3, 4, 5, 6, 7, 16);
        dueColours("the greater label", x, 1, 8, 9, 10, 11, 12, 13, 14, 15, 17);
    }

    private static void coloursOfBothGraphs() {
        CHECKS.promise(7, "of both graphs");
        for (int g = 0; g < 2; g++) {
            GraphTwins x = Drawing.begun(4);
            Drawing.ladder(x, g, 4, 2);
            due("one graph parted, the other one not", x.colours(), 5);
            x.copy(1 - g);
            due("the same colours in both", x.colours(), 4);
        }
    }

    private static void coloursOfOneVertex() {
        CHECKS.promise(7, "of graphs of one vertex");
        GraphTwins x = new GraphTwins();
        due("colours() of one tint", x.colours(), 1);
        x.tint(0, 0, 3);
        due("colours() of two tints", x.colours(), 2);
        x.copy(1);
        due("colours() of one tint again", x.colours(), 1);
    }

    /**
     * Nine rounds that part are the most that can be. Each graph parts within at most eight times; when both have done
     * so, two rounds at most are left, one that first tells the graphs from one another and one that tells all their
     * vertices; and if both part within eight times, the eighth round tells the graphs from one another, or none does.
     * These two part within seven times (2, 3, 4, 5, 6, 7, 9 colours), then from one another (13, 18).
     */
    private static void coloursInManyRounds() {
        CHECKS.promise(7, "rounds until one gives no more colours, nine that part");
        GraphTwins x = Drawing.begun(MOST);
        Drawing.labels(x, 0, "001222001", "000222222", "100100222", "221002010", "220001102",
            "220210010", "022010021", "022101200", "122020100");
        Drawing.labels(x, 1, "001222001", "000222222", "100100222", "221002100", "220001102",
            "220210010", "022110020", "022001201", "122020010");
        due("colours()", x.colours(), 18);
        dueColours("what takes nine rounds", x, 0, 13, 17, 15, 2, 10, 9, 6, 5, 1);
        dueColours("what takes nine rounds", x, 1, 12, 16, 14, 3, 11, 8, 4, 7, 0);
    }

    private static void coloursOfOneGraphInManyRounds() {
        CHECKS.promise(7, "rounds until one gives no more colours, on one graph alone");
        for (int g = 0; g < 2; g++) {
            GraphTwins x = Drawing.begun(MOST);
            Drawing.path(x, g, MOST, 1);
            due("colours() of a path and of an empty graph", x.colours(), 6);
            x.tint(g, 0, 1);
            due("colours() of a path with a tinted end", x.colours(), 10);
        }
    }

    private static void coloursThatNoRoundParts() {
        CHECKS.promise(7, "vertices that do not differ get one colour");
        GraphTwins x = Drawing.begun(MOST);
        Drawing.cycle(x, 0, 0, 9);
        Drawing.cycle(x, 1, 0, 3);
        Drawing.cycle(x, 1, 3, 6);
        due("a cycle, and two", x.colours(), 1);
    }

    private static void coloursBehindEachChange() {
        CHECKS.promise(7, "of the graphs as they are");
        GraphTwins x = Drawing.begun(2);
        due("empty", x.colours(), 1);
        x.label(0, 0, 1, 1);
        due("behind label", x.colours(), 3);
        due("behind label", x.colour(0, 1), 1);
        x.exchange(0, 0, 1);
        due("behind exchange", x.colour(0, 1), 2);
        x.copy(1);
        due("behind copy", x.colours(), 2);
        x.tint(1, 0, 1);
        due("behind tint", x.colours(), 4);
        x.begin(2);
        due("behind begin", x.colours(), 1);
    }

    // Promise 8

    private static void colourNumbersHaveNoGaps() {
        CHECKS.promise(8, "the colours that there are get the numbers 0, 1, .. in order");
        GraphTwins x = Drawing.begun(1);
        x.tint(0, 0, 3);
        x.tint(1, 0, 1);
        due("tint 1", x.colour(1, 0), 0);
        due("tint 3", x.colour(0, 0), 1);
        x.tint(1, 0, 3);
        due("tint 3 alone", x.colour(0, 0), 0);
        x.begin(2);
        Drawing.tints(x, 0, 1, 3);
        Drawing.tints(x, 1, 3, 3);
        dueColours("tints 1 and 3", x, 0, 0, 1);
        dueColours("tints 3 and 3", x, 1, 2, 2);
    }

    private static void colourIsFirstByTint() {
        CHECKS.promise(8, "first by tint");
        GraphTwins x = Drawing.begun(2);
        Drawing.tints(x, 0, 1, 1);
        Drawing.edge(x, 1, 0, 1, 3);
        dueColours("tint 0, the greatest labels", x, 1, 0, 0);
        dueColours("tint 1, no edges", x, 0, 1, 1);
    }

    /** Of two vertices, each has but one other: it comes before who has it with a lesser p. */
    private static void colourByEachLabelPair() {
        CHECKS.promise(8, "p being 0 .. 15, the label to is p / 4, that from p modulo 4");
        for (int p = 0; p < 16; p++) {
            for (int q = 0; q < 16; q++) {
                GraphTwins x = Drawing.begun(2);
                x.label(0, 0, 1, p / 4);
                x.label(0, 1, 0, p % 4);
                x.label(1, 0, 1, q / 4);
                x.label(1, 1, 0, q % 4);
                int[] all = {p, p % 4 * 4 + p / 4, q, q % 4 * 4 + q / 4};
                String name = "p " + p + " and " + q;
                dueColours(name, x, 0, rank(all[0], all), rank(all[1], all));
                dueColours(name, x, 1, rank(all[2], all), rank(all[3], all));
            }
        }
    }

    /** How many different numbers of a row are less. */
    private static int rank(int number, int[] row) {
        int less = 0;
        for (int i = 0; i < row.length; i++) {
            boolean isNew = true;
            for (int j = 0; j < i; j++) {
                isNew &= row[j] != row[i];
            }
            if (isNew && row[i] < number) {
                less++;
            }
        }
        return less;
    }

    /** Vertex 2 has label pair p to vertex 0 (tint 0) and pair q to vertex 1 (tint 1). */
    private static void join(GraphTwins x, int g, int p, int q) {
        Drawing.tints(x, g, 0, 1, 2);
        x.label(g, 2, 0, p / 4);
        x.label(g, 0, 2, p % 4);
        x.label(g, 2, 1, q / 4);
        x.label(g, 1, 2, q % 4);
    }

    private static void colourByLabelsBeforeColours() {
        CHECKS.promise(8, "for each p c being all colours");
        GraphTwins x = Drawing.begun(3);
        join(x, 0, 1, 5);
        join(x, 1, 5, 0);
        due("p 1 to colour 0", x.colour(0, 2), 5);
        due("p 0 to colour 1, which is before", x.colour(1, 2), 4);
    }

    private static void colourByColoursInOrder() {
        CHECKS.promise(8, "c being all colours, in order");
        GraphTwins x = Drawing.begun(3);
        join(x, 0, 15, 0);
        join(x, 1, 0, 15);
        due("p 0 to colour 1", x.colour(0, 2), 5);
        due("p 0 to colour 0, which is before", x.colour(1, 2), 4);
    }

    private static void colourOfMoreIsBefore() {
        CHECKS.promise(8, "the one that has more where they differ first is before");
        GraphTwins x = Drawing.begun(MOST);
        for (int v = 1; v < MOST; v++) {
            Drawing.edge(x, 0, 0, v, 3);
        }
        Drawing.ladder(x, 1, MOST, 1);
        due("seven without an edge", x.colour(0, 1), 0);
        due("no vertex without an edge, eight that lead here", x.colour(1, 0), 1);
        due("seven that lead here", x.colour(1, 1), 2);
        due("none that lead here, eight to which it leads", x.colour(1, 8), 9);
        due("eight with the greatest labels", x.colour(0, 0), 10);
        due("colours()", x.colours(), 11);
    }

    private static void colourCountsItsOwnGraphOnly() {
        CHECKS.promise(8, "other vertices w of its graph");
        for (int g = 0; g < 2; g++) {
            GraphTwins x = Drawing.begun(2);
            Drawing.edge(x, g, 0, 1, 1);
            dueColours("without an edge", x, 1 - g, 0, 0);
            dueColours("with an edge", x, g, 1, 1);
        }
    }

    private static void colourRefusesGraphs() {
        CHECKS.promise(8, "BAD: no such graph");
        for (int g : Lively.WRONG_GRAPHS) {
            Lively.dueRefused(CHECKS, "colour(" + g + ", 0)", BAD, x -> x.colour(g, 0));
        }
    }

    private static void colourRefusesVertices() {
        CHECKS.promise(8, "BAD: no such vertex");
        for (int v : Lively.WRONG_VERTICES) {
            Lively.dueRefused(CHECKS, "colour(0, " + v + ")", BAD, x -> x.colour(0, v));
            Lively.dueRefused(CHECKS, "colour(1, " + v + ")", BAD, x -> x.colour(1, v));
        }
    }
}
