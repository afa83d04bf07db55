/** For each promise of the document: ordinary inputs, the edges that it names, and wrong inputs. */
public final class PromisesTest {
    private static final int BAD = GraphTwins.BAD;
    private static final int[] WRONG_GRAPHS = {-1, 2, Integer.MIN_VALUE, Integer.MAX_VALUE};

    private static final Checks CHECKS = new Checks();

    public static void main(String[] args) {
        due("BAD", BAD, -1);
        newObject();
        begin();
        beginRefused();
        label();
        labelRefused();
        tint();
        tintRefused();
        exchange();
        exchangeRefused();
        copy();
        colours();
        coloursOfBothGraphs();
        coloursInRounds();
        colour();
        colourOrder();
        twins();
        twinsOfAllMarks();
        twinsRefused();
        image();
        imageEnded();
        imageKept();
        next();
        nextOfNine();
        symmetries();
        orbit();
        form();
        formOfAllMarks();
        formOrder();
        formRefused();
        compare();
        count();
        CHECKS.end();
    }

    private static void due(String call, long got, long want) {
        CHECKS.due(call, got, want);
    }

    private static GraphTwins begun(int n) {
        GraphTwins x = new GraphTwins();
        due("begin(" + n + ")", x.begin(n), 0);
        return x;
    }

    private static void edge(GraphTwins x, int g, int u, int v, int label) {
        x.label(g, u, v, label);
        x.label(g, v, u, label);
    }

    private static void cycle(GraphTwins x, int g, int from, int length) {
        for (int i = 0; i < length; i++) {
            edge(x, g, from + i, from + (i + 1) % length, 1);
        }
    }

    private static void dueNaming(String name, GraphTwins x, int... naming) {
        for (int v = 0; v < naming.length; v++) {
            due(name + ": image(" + v + ")", x.image(v), naming[v]);
        }
    }

    private static void dueForm(String name, GraphTwins x, int g, int... form) {
        due(name + ": count(4)", x.count(4), form.length);
        for (int i = 0; i < form.length; i++) {
            due(name + ": form(" + g + ", " + i + ")", x.form(g, i), form[i]);
        }
        due(name + ": form behind its last number", x.form(g, form.length), BAD);
    }

    // Promise 1

    private static void newObject() {
        GraphTwins x = new GraphTwins();
        due("new: count(0)", x.count(0), 1);
        due("new: count(1)", x.count(1), 0);
        due("new: count(2)", x.count(2), 0);
        due("new: count(3)", x.count(3), 0);
        due("new: count(4)", x.count(4), 1);
        due("new: image(0)", x.image(0), BAD);
        due("new: next()", x.next(), BAD);
        due("new: colours()", x.colours(), 1);
        due("new: symmetries(0)", x.symmetries(0), 1);
        due("new: symmetries(1)", x.symmetries(1), 1);
        due("new: form(0, 0)", x.form(0, 0), 0);
        due("new: form(1, 0)", x.form(1, 0), 0);
        due("new: tint(0, 0, 0)", x.tint(0, 0, 0), 0);
        due("new: tint(1, 0, 0)", x.tint(1, 0, 0), 0);
        due("new: tint(0, 1, 0)", x.tint(0, 1, 0), BAD);
        due("new: twins()", x.twins(), 1);
    }

    // Promise 2

    private static void begin() {
        GraphTwins x = begun(9);
        fill(x, 9);
        due("twins()", x.twins(), 1);
        due("begin(9) again", x.begin(9), 0);
        due("begin ends the naming: count(3)", x.count(3), 0);
        due("begin ends the naming: image(0)", x.image(0), BAD);
        dueEmpty(x, 9);
        fill(x, 9);
        due("begin(1)", x.begin(1), 0);
        dueEmpty(x, 1);
        due("begin(9) behind begin(1)", x.begin(9), 0);
        dueEmpty(x, 9);
    }

    private static void fill(GraphTwins x, int n) {
        for (int g = 0; g < 2; g++) {
            for (int u = 0; u < n; u++) {
                x.tint(g, u, 3);
                for (int v = 0; v < n; v++) {
                    x.label(g, u, v, 3);
                }
            }
        }
    }

    private static void dueEmpty(GraphTwins x, int n) {
        due("empty: count(0)", x.count(0), n);
        for (int g = 0; g < 2; g++) {
            due("empty: edges", x.count(1 + g), 0);
            for (int u = 0; u < n; u++) {
                due("empty: tint", x.tint(g, u, 0), 0);
                for (int v = 0; v < n; v++) {
                    due("empty: label", x.label(g, u, v, 0), u == v ? BAD : 0);
                }
            }
        }
    }

    private static void beginRefused() {
        GraphTwins x = begun(3);
        x.label(0, 1, 2, 3);
        x.copy(1);
        due("twins()", x.twins(), 1);
        int[] wrong = {0, 10, -1, Integer.MIN_VALUE, Integer.MAX_VALUE};
        for (int n : wrong) {
            due("begin(" + n + ")", x.begin(n), BAD);
            due("a refused begin leaves n", x.count(0), 3);
            due("a refused begin leaves the edges", x.count(1), 1);
            due("a refused begin leaves the naming", x.image(2), 2);
        }
        for (int n = 1; n <= 9; n++) {
            due("begin(" + n + ")", x.begin(n), 0);
            due("count(0)", x.count(0), n);
        }
    }

    // Promise 3

    private static void label() {
        GraphTwins x = begun(9);
        due("label(0, 8, 0, 3)", x.label(0, 8, 0, 3), 0);
        due("label(0, 8, 0, 1)", x.label(0, 8, 0, 1), 3);
        due("label(0, 8, 0, 0)", x.label(0, 8, 0, 0), 1);
        due("label(0, 8, 0, 2)", x.label(0, 8, 0, 2), 0);
        due("the other direction is its own", x.label(0, 0, 8, 1), 0);
        due("the other direction was set", x.label(0, 0, 8, 1), 1);
        due("the other graph is its own", x.label(1, 8, 0, 3), 0);
        due("label(0, 8, 0, 2)", x.label(0, 8, 0, 2), 2);
    }

    private static void labelRefused() {
        GraphTwins x = begun(4);
        x.label(0, 1, 2, 3);
        int[][] wrong = {
            {0, 0, 0, 1}, {0, 3, 3, 0}, {0, 1, 2, 4}, {0, 1, 2, -1}, {0, 4, 2, 1}, {0, 1, 4, 1}, {0, -1, 2, 1},
            {0, 1, -1, 1}, {0, 4, 4, 1}, {0, 1, 2, Integer.MAX_VALUE}, {0, 1, 2, Integer.MIN_VALUE},
            {0, Integer.MIN_VALUE, 2, 1}, {0, 1, Integer.MAX_VALUE, 1}, {-1, 1, 2, 1}, {2, 1, 2, 1},
        };
        for (int[] w : wrong) {
            due("label of wrong inputs", x.label(w[0], w[1], w[2], w[3]), BAD);
        }
        due("refused labels change nothing", x.label(0, 1, 2, 3), 3);
        due("refused labels set no edges", x.count(1), 1);
        due("refused labels set no edges of graph 1", x.count(2), 0);
    }

    // Promise 4

    private static void tint() {
        GraphTwins x = begun(9);
        due("tint(1, 8, 3)", x.tint(1, 8, 3), 0);
        due("tint(1, 8, 2)", x.tint(1, 8, 2), 3);
        due("tint(1, 8, 0)", x.tint(1, 8, 0), 2);
        due("tint(1, 8, 1)", x.tint(1, 8, 1), 0);
        due("the other graph has its own tints", x.tint(0, 8, 0), 0);
        due("another vertex has its own tint", x.tint(1, 7, 0), 0);
        due("tint(1, 8, 1) again", x.tint(1, 8, 1), 1);
    }

    private static void tintRefused() {
        GraphTwins x = begun(4);
        x.tint(0, 3, 2);
        int[][] wrong = {
            {0, 3, 4}, {0, 3, -1}, {0, 4, 1}, {0, -1, 1}, {-1, 3, 1}, {2, 3, 1}, {0, 3, Integer.MAX_VALUE},
            {0, Integer.MIN_VALUE, 1}, {0, Integer.MAX_VALUE, 1}, {Integer.MAX_VALUE, 0, 0},
        };
        for (int[] w : wrong) {
            due("tint of wrong inputs", x.tint(w[0], w[1], w[2]), BAD);
        }
        due("refused tints change nothing", x.tint(0, 3, 2), 2);
        due("refused tints leave graph 1", x.tint(1, 3, 0), 0);
    }

    // Promise 5

    private static void exchange() {
        GraphTwins x = begun(3);
        x.tint(0, 0, 1);
        x.tint(0, 2, 3);
        x.label(0, 0, 1, 1);
        x.label(0, 1, 0, 2);
        x.label(0, 0, 2, 3);
        x.label(0, 2, 1, 2);
        due("exchange(0, 0, 2)", x.exchange(0, 0, 2), 0);
        due("tint of 0", x.tint(0, 0, 3), 3);
        due("tint of 1", x.tint(0, 1, 0), 0);
        due("tint of 2", x.tint(0, 2, 1), 1);
        due("label from 2 to 1", x.label(0, 2, 1, 1), 1);
        due("label from 1 to 2", x.label(0, 1, 2, 2), 2);
        due("label from 2 to 0", x.label(0, 2, 0, 3), 3);
        due("label from 0 to 2", x.label(0, 0, 2, 0), 0);
        due("label from 0 to 1", x.label(0, 0, 1, 2), 2);
        due("label from 1 to 0", x.label(0, 1, 0, 0), 0);
        due("the other graph stays", x.count(2), 0);
        due("exchange(0, 1, 1)", x.exchange(0, 1, 1), 0);
        due("an exchange with itself leaves a label", x.label(0, 0, 1, 2), 2);
        due("an exchange with itself leaves the edges", x.count(1), 4);
    }

    private static void exchangeRefused() {
        GraphTwins x = begun(3);
        x.tint(0, 1, 3);
        int[][] wrong = {
            {0, 1, 3}, {0, 3, 1}, {0, -1, 1}, {0, 1, -1}, {0, 3, 3}, {2, 1, 0}, {-1, 1, 0},
            {0, Integer.MAX_VALUE, 1}, {0, 1, Integer.MIN_VALUE},
        };
        for (int[] w : wrong) {
            due("exchange of wrong inputs", x.exchange(w[0], w[1], w[2]), BAD);
        }
        due("a refused exchange changes nothing", x.tint(0, 1, 3), 3);
    }

    // Promise 6

    private static void copy() {
        GraphTwins x = begun(9);
        x.label(0, 0, 8, 3);
        x.tint(0, 8, 2);
        x.label(1, 4, 5, 1);
        for (int g : WRONG_GRAPHS) {
            due("copy(" + g + ")", x.copy(g), BAD);
        }
        due("a refused copy changes nothing", x.count(2), 1);
        due("copy(1)", x.copy(1), 0);
        due("copied: no label is left over", x.label(1, 4, 5, 0), 0);
        due("copied: label", x.label(1, 0, 8, 3), 3);
        due("copied: tint", x.tint(1, 8, 2), 2);
        due("the other one stays", x.label(0, 0, 8, 3), 3);
        x.label(1, 0, 8, 1);
        x.tint(1, 0, 1);
        due("behind a copy the graphs are their own", x.label(0, 0, 8, 3), 3);
        due("copy(0)", x.copy(0), 0);
        due("copied back: label", x.label(0, 0, 8, 1), 1);
        due("copied back: tint", x.tint(0, 0, 1), 1);
    }

    // Promises 7 and 8

    private static void colours() {
        GraphTwins x = begun(9);
        due("colours() of empty graphs", x.colours(), 1);
        edge(x, 0, 0, 1, 1);
        due("colours() of an edge", x.colours(), 3);
        edge(x, 0, 0, 1, 0);
        due("colours() of an edge taken away", x.colours(), 1);
        x.label(0, 0, 1, 1);
        due("colours() of a directed edge", x.colours(), 4);
        x.begin(1);
        due("colours() of one vertex", x.colours(), 1);
        x.tint(1, 0, 3);
        due("colours() of two tints", x.colours(), 2);
    }

    private static void coloursOfBothGraphs() {
        GraphTwins x = begun(6);
        cycle(x, 0, 0, 6);
        cycle(x, 1, 0, 3);
        cycle(x, 1, 3, 3);
        due("rounds do not part a cycle from two", x.colours(), 1);
        x.tint(1, 0, 3);
        due("colours() counts those of both graphs", x.colours(), 4);
        due("the long cycle: no edge to three of colour 0, an edge to two", x.colour(0, 5), 0);
        due("the tinted triangle's others: no edge to three, an edge to one", x.colour(1, 1), 1);
        due("the other triangle: no edge to two of colour 0", x.colour(1, 4), 2);
        due("the tinted vertex", x.colour(1, 0), 3);
    }

    private static void coloursInRounds() {
        GraphTwins x = begun(9);
        for (int v = 0; v < 8; v++) {
            edge(x, 0, v, v + 1, 1);
        }
        x.copy(1);
        due("a path of nine needs more rounds than one", x.colours(), 5);
        for (int v = 0; v < 9; v++) {
            due("colours are the same from both ends", x.colour(0, v), x.colour(1, 8 - v));
        }
        x.tint(1, 0, 1);
        due("a path with a tinted end parts all", x.colours(), 14);
    }

    private static void colour() {
        GraphTwins x = begun(4);
        x.tint(0, 2, 3);
        x.tint(1, 0, 1);
        int[][] wrong = {{0, 4}, {0, -1}, {2, 0}, {-1, 0}, {1, Integer.MAX_VALUE}, {1, Integer.MIN_VALUE}};
        for (int[] w : wrong) {
            due("colour of wrong inputs", x.colour(w[0], w[1]), BAD);
        }
        due("tints there are get the first numbers: colour(0, 2)", x.colour(0, 2), 3);
        due("colour(1, 0)", x.colour(1, 0), 2);
        due("three vertices and a tint 1 are before", x.colour(1, 1), 0);
        due("three vertices and a tint 3 are behind", x.colour(0, 0), 1);
    }

    /** Who has more of the first label pair where they differ is before the other one. */
    private static void colourOrder() {
        GraphTwins x = begun(3);
        x.label(0, 0, 1, 1);
        x.label(1, 0, 1, 2);
        due("colours()", x.colours(), 6);
        due("no edge, and others that are before: parted in the second round", x.colour(0, 2), 0);
        due("no edge, and others that are behind", x.colour(1, 2), 1);
        due("from which the label is 1 (p 1)", x.colour(0, 1), 2);
        due("from which the label is 2 (p 2)", x.colour(1, 1), 3);
        due("to which the label is 1 (p 4)", x.colour(0, 0), 4);
        due("to which the label is 2 (p 8)", x.colour(1, 0), 5);
        x.begin(3);
        edge(x, 0, 0, 1, 3);
        edge(x, 0, 1, 2, 3);
        x.copy(1);
        due("the middle has the fewest without an edge", x.colour(0, 1), 1);
        due("the ends", x.colour(0, 0), 0);
    }

    // Promise 9

    private static void twins() {
        GraphTwins x = begun(1);
        due("twins() of one vertex", x.twins(), 1);
        x.tint(0, 0, 3);
        due("twins() of other tints", x.twins(), 0);
        x.tint(1, 0, 3);
        due("twins() of the same tints", x.twins(), 1);
        x.begin(9);
        due("twins() of nine vertices", x.twins(), 1);
        dueNaming("the first one", x, 0, 1, 2, 3, 4, 5, 6, 7, 8);
        x.label(0, 0, 1, 2);
        due("twins() of other edges", x.twins(), 0);
        due("no naming at hand", x.count(3), 0);
        x.label(1, 8, 7, 2);
        due("twins() of a directed edge each", x.twins(), 1);
        dueNaming("an edge moved", x, 8, 7, 0, 1, 2, 3, 4, 5, 6);
        x.label(0, 0, 1, 1);
        due("twins() of other labels", x.twins(), 0);
    }

    private static void twinsOfAllMarks() {
        GraphTwins x = begun(5);
        for (int u = 0; u < 5; u++) {
            x.tint(0, u, u % 2 == 0 ? 3 : 1);
            for (int v = 0; v < 5; v++) {
                x.label(0, u, v, (3 * u + v * v * u + v) % 7 % 4);
            }
        }
        x.copy(1);
        x.exchange(1, 0, 4);
        x.exchange(1, 1, 3);
        due("twins() of a graph named anew", x.twins(), 1);
        dueNaming("named anew", x, 4, 3, 2, 1, 0);
        due("no other naming", x.next(), 0);
        int was = x.label(1, 2, 3, 3);
        x.label(1, 2, 3, (was + 1) % 4);
        due("twins() with one other label", x.twins(), 0);
        x.label(1, 2, 3, was);
        due("twins() with the label back", x.twins(), 1);
        x.tint(1, 4, 1);
        due("twins() with one other tint", x.twins(), 0);
    }

    private static void twinsRefused() {
        GraphTwins x = begun(9);
        cycle(x, 0, 0, 9);
        cycle(x, 1, 0, 4);
        cycle(x, 1, 4, 5);
        due("twins() of graphs of one colour", x.colours(), 1);
        due("twins() of a cycle and two", x.twins(), 0);
        due("image(0)", x.image(0), BAD);
        due("next()", x.next(), BAD);
        due("count(3)", x.count(3), 0);
    }

    // Promise 10

    private static void image() {
        GraphTwins x = begun(9);
        due("image(0) with no naming at hand", x.image(0), BAD);
        x.tint(0, 0, 1);
        x.tint(1, 8, 1);
        due("twins()", x.twins(), 1);
        dueNaming("a tint moved", x, 8, 0, 1, 2, 3, 4, 5, 6, 7);
        int[] wrong = {9, -1, Integer.MAX_VALUE, Integer.MIN_VALUE};
        for (int v : wrong) {
            due("image(" + v + ")", x.image(v), BAD);
        }
        due("a refused image leaves the naming", x.count(3), 1);
        x.tint(1, 8, 2);
        due("twins() that fails", x.twins(), 0);
        due("image(0) behind twins() that failed", x.image(0), BAD);
    }

    /** Each call that changes a graph ends the naming, also if it sets what was there already. */
    private static void imageEnded() {
        GraphTwins x = begun(3);
        for (int call = 0; call < 8; call++) {
            due("twins()", x.twins(), 1);
            due("count(3)", x.count(3), 1);
            int g = call % 2;
            switch (call / 2) {
                case 0 -> x.label(g, 0, 1, 0);
                case 1 -> x.tint(g, 2, 0);
                case 2 -> x.exchange(g, 1, 1);
                default -> x.copy(g);
            }
            due("count(3) behind a change", x.count(3), 0);
            due("image(0) behind a change", x.image(0), BAD);
            due("next() behind a change", x.next(), BAD);
        }
    }

    private static void imageKept() {
        GraphTwins x = begun(3);
        x.twins();
        x.next();
        due("label refused", x.label(0, 0, 0, 1), BAD);
        due("tint refused", x.tint(0, 0, 4), BAD);
        due("exchange refused", x.exchange(0, 0, 3), BAD);
        due("copy refused", x.copy(2), BAD);
        x.colours();
        x.colour(0, 0);
        x.symmetries(0);
        x.symmetries(1);
        x.orbit(1, 2);
        x.form(0, 0);
        x.compare(0);
        x.count(0);
        dueNaming("behind calls that do not change a graph", x, 0, 2, 1);
        due("next() goes on", x.next(), 1);
        dueNaming("the third one", x, 1, 0, 2);
        due("twins() anew", x.twins(), 1);
        dueNaming("the first one again", x, 0, 1, 2);
    }

    // Promise 11

    private static void next() {
        GraphTwins x = begun(3);
        due("next() with none at hand", x.next(), BAD);
        x.twins();
        int[][] namings = {{0, 2, 1}, {1, 0, 2}, {1, 2, 0}, {2, 0, 1}, {2, 1, 0}};
        for (int[] naming : namings) {
            due("next()", x.next(), 1);
            dueNaming("in order", x, naming);
        }
        due("next() behind the last one", x.next(), 0);
        due("none at hand: count(3)", x.count(3), 0);
        due("none at hand: image(0)", x.image(0), BAD);
        due("none at hand: next()", x.next(), BAD);
        x.tint(0, 0, 1);
        x.tint(1, 1, 1);
        x.twins();
        dueNaming("two namings: the first", x, 1, 0, 2);
        due("two namings: next()", x.next(), 1);
        dueNaming("two namings: the second", x, 1, 2, 0);
        due("two namings: no third", x.next(), 0);
    }

    private static void nextOfNine() {
        GraphTwins x = begun(9);
        cycle(x, 0, 0, 9);
        cycle(x, 1, 0, 9);
        x.exchange(1, 0, 4);
        due("twins()", x.twins(), 1);
        for (int i = 1; i < 18; i++) {
            due("next() of a cycle of nine", x.next(), 1);
        }
        due("a cycle of nine has eighteen", x.next(), 0);
    }

    // Promise 12

    private static void symmetries() {
        int[] factorials = {1, 1, 2, 6, 24, 120, 720, 5040, 40320, 362880};
        GraphTwins x = new GraphTwins();
        for (int n = 1; n <= 9; n++) {
            x.begin(n);
            due("symmetries of " + n + " vertices alone", x.symmetries(1), factorials[n]);
        }
        for (int g : WRONG_GRAPHS) {
            due("symmetries(" + g + ")", x.symmetries(g), BAD);
        }
        cycle(x, 0, 0, 3);
        cycle(x, 0, 3, 3);
        cycle(x, 0, 6, 3);
        due("symmetries of three triangles", x.symmetries(0), 1296);
        due("symmetries of the other graph", x.symmetries(1), 362880);
        x.label(0, 0, 1, 0);
        due("symmetries with one label gone", x.symmetries(0), 72);
        x.tint(0, 3, 3);
        due("symmetries with a tint", x.symmetries(0), 12);
        x.begin(9);
        rooks(x);
        due("symmetries of three rows by three", x.symmetries(0), 72);
    }

    private static void rooks(GraphTwins x) {
        for (int u = 0; u < 9; u++) {
            for (int v = 0; v < 9; v++) {
                if (u / 3 == v / 3 || u % 3 == v % 3) {
                    x.label(0, u, v, 1);
                }
            }
        }
    }

    // Promise 13

    private static void orbit() {
        GraphTwins x = begun(9);
        due("orbit(0, 8) of vertices alone", x.orbit(0, 8), 0);
        int[][] wrong = {{0, 9}, {0, -1}, {2, 0}, {-1, 0}, {0, Integer.MAX_VALUE}, {1, Integer.MIN_VALUE}};
        for (int[] w : wrong) {
            due("orbit of wrong inputs", x.orbit(w[0], w[1]), BAD);
        }
        for (int v = 0; v < 8; v++) {
            edge(x, 1, v, v + 1, 2);
        }
        for (int v = 0; v < 9; v++) {
            due("orbit of a path", x.orbit(1, v), Math.min(v, 8 - v));
        }
        x.tint(1, 8, 1);
        for (int v = 0; v < 9; v++) {
            due("orbit of a path with a tinted end", x.orbit(1, v), v);
        }
        x.begin(9);
        cycle(x, 0, 0, 4);
        cycle(x, 0, 4, 5);
        due("colours() do not part them", x.colour(0, 0), x.colour(0, 8));
        due("orbit of the first cycle", x.orbit(0, 3), 0);
        due("orbit of the second cycle", x.orbit(0, 8), 4);
    }

    // Promise 14

    private static void form() {
        GraphTwins x = new GraphTwins();
        dueForm("one vertex", x, 0, 0);
        x.tint(0, 0, 3);
        dueForm("one tinted vertex", x, 0, 3);
        dueForm("the other graph", x, 1, 0);
        x.begin(3);
        edge(x, 0, 0, 1, 1);
        edge(x, 0, 0, 2, 1);
        dueForm("a path", x, 0, 0, 0, 0, 0, 0, 1, 1, 1, 1);
        x.label(0, 1, 0, 2);
        dueForm("a path with another label", x, 0, 0, 0, 0, 0, 0, 1, 1, 1, 2);
        x.tint(0, 2, 1);
        dueForm("a path with a tinted end", x, 0, 0, 0, 1, 2, 1, 0, 0, 1, 1);
    }

    private static void formOfAllMarks() {
        GraphTwins x = begun(2);
        x.tint(1, 0, 3);
        x.tint(1, 1, 2);
        x.label(1, 0, 1, 1);
        x.label(1, 1, 0, 3);
        dueForm("all marks", x, 1, 2, 3, 1, 3);
        x.exchange(1, 0, 1);
        dueForm("all marks exchanged", x, 1, 2, 3, 1, 3);
        x.begin(9);
        fill(x, 9);
        for (int i = 0; i < 81; i++) {
            due("form of the greatest marks", x.form(0, i), 3);
        }
        due("form(0, 81)", x.form(0, 81), BAD);
        x.label(0, 4, 7, 2);
        due("the lesser label comes first", x.form(0, 2), 2);
        due("and its other direction is as it was", x.form(0, 3), 3);
        due("and nothing else is less", x.form(0, 80), 3);
    }

    /** The label from the later vertex to the earlier one stands before that back. */
    private static void formOrder() {
        GraphTwins x = begun(2);
        x.label(0, 0, 1, 1);
        dueForm("a directed edge", x, 0, 0, 0, 0, 1);
        x.begin(9);
        for (int v = 0; v < 8; v++) {
            x.label(0, 8, v, v % 2 == 0 ? 3 : 1);
        }
        for (int i = 0; i < 65; i++) {
            due("a star's other vertices are first", x.form(0, i), 0);
        }
        for (int j = 0; j < 8; j++) {
            due("a star's labels in order", x.form(0, 65 + 2 * j), j < 4 ? 1 : 3);
            due("a star's labels back", x.form(0, 66 + 2 * j), 0);
        }
    }

    private static void formRefused() {
        GraphTwins x = begun(2);
        int[] wrong = {-1, 4, 5, 81, Integer.MAX_VALUE, Integer.MIN_VALUE};
        for (int i : wrong) {
            due("form(0, " + i + ")", x.form(0, i), BAD);
        }
        for (int g : WRONG_GRAPHS) {
            due("form(" + g + ", 0)", x.form(g, 0), BAD);
        }
        due("the last number", x.form(0, 3), 0);
    }

    // Promise 15

    private static void compare() {
        GraphTwins x = new GraphTwins();
        due("compare(0) of new graphs", x.compare(0), 0);
        for (int g : WRONG_GRAPHS) {
            due("compare(" + g + ")", x.compare(g), -2);
        }
        x.tint(1, 0, 1);
        due("compare(0) with a lesser tint", x.compare(0), -1);
        due("compare(1) with a greater tint", x.compare(1), 1);
        x.begin(9);
        cycle(x, 0, 0, 9);
        cycle(x, 1, 0, 9);
        x.exchange(1, 0, 5);
        due("compare(0) of twins", x.compare(0), 0);
        due("compare(1) of twins", x.compare(1), 0);
        edge(x, 1, 0, 1, 3);
        due("compare(0) with a label less", x.compare(0), -1);
        due("compare(1) with a label more", x.compare(1), 1);
        x.begin(2);
        x.label(0, 0, 1, 1);
        x.label(1, 0, 1, 2);
        due("compare(0) that the last number decides", x.compare(0), -1);
        x.tint(0, 0, 1);
        due("compare(0) that a tint decides", x.compare(0), 1);
    }

    // Promise 16

    private static void count() {
        GraphTwins x = begun(9);
        due("count(0)", x.count(0), 9);
        x.label(0, 0, 1, 3);
        x.label(0, 1, 0, 1);
        x.label(0, 8, 7, 2);
        x.label(1, 8, 7, 2);
        due("count(1)", x.count(1), 3);
        due("count(2)", x.count(2), 1);
        due("count(3)", x.count(3), 0);
        due("count(4)", x.count(4), 81);
        x.copy(0);
        due("count(1) behind copy", x.count(1), 1);
        x.twins();
        due("count(3) with a naming at hand", x.count(3), 1);
        int[] wrong = {-1, 5, Integer.MAX_VALUE, Integer.MIN_VALUE};
        for (int which : wrong) {
            due("count(" + which + ")", x.count(which), BAD);
        }
        x.label(0, 8, 7, 0);
        due("count(1) without its edge", x.count(1), 0);
        x.begin(4);
        due("count(4) of four vertices", x.count(4), 16);
    }
}
