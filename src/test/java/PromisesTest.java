/** Each promise with ordinary inputs; what is least, greatest, empty, full or wrong is tested as a boundary. */
public final class PromisesTest {
    private static final Checks CHECKS = new Checks();

    public static void main(String[] args) {
        newObject();
        begin();
        label();
        tint();
        exchange();
        copy();
        colours();
        coloursInRounds();
        colour();
        colourOrder();
        twins();
        twinsOfAllMarks();
        image();
        next();
        symmetries();
        orbit();
        form();
        formOfAStar();
        compare();
        count();
        CHECKS.end();
    }

    private static void due(String call, long got, long want) {
        CHECKS.due(call, got, want);
    }

    private static void newObject() {
        CHECKS.promise(1, "a new object");
        GraphTwins x = new GraphTwins();
        due("count(0)", x.count(0), 1);
        due("twins()", x.twins(), 1);
        due("image(0)", x.image(0), 0);
    }

    private static void begin() {
        CHECKS.promise(2, "two graphs of n vertices");
        GraphTwins x = new GraphTwins();
        due("begin(4)", x.begin(4), 0);
        x.label(0, 2, 3, 1);
        x.tint(1, 3, 2);
        due("begin(3)", x.begin(3), 0);
        due("count(0)", x.count(0), 3);
        due("edges", x.count(1), 0);
        due("begin(4) again", x.begin(4), 0);
        due("label from 2 to 3", x.label(0, 2, 3, 0), 0);
        due("tint of 3", x.tint(1, 3, 0), 0);
    }

    private static void label() {
        CHECKS.promise(3, "the label becomes another one: what it was");
        GraphTwins x = Drawing.begun(5);
        due("label(0, 3, 1, 3)", x.label(0, 3, 1, 3), 0);
        due("label(0, 3, 1, 1)", x.label(0, 3, 1, 1), 3);
        due("label(0, 3, 1, 0)", x.label(0, 3, 1, 0), 1);
        due("label(0, 3, 1, 2)", x.label(0, 3, 1, 2), 0);
        due("the other direction is its own", x.label(0, 1, 3, 1), 0);
        due("the other direction was set", x.label(0, 1, 3, 1), 1);
        due("the other graph is its own", x.label(1, 3, 1, 3), 0);
        due("label(0, 3, 1, 2)", x.label(0, 3, 1, 2), 2);
    }

    private static void tint() {
        CHECKS.promise(4, "the tint becomes another one: what it was");
        GraphTwins x = Drawing.begun(5);
        due("tint(1, 2, 3)", x.tint(1, 2, 3), 0);
        due("tint(1, 2, 2)", x.tint(1, 2, 2), 3);
        due("tint(1, 2, 0)", x.tint(1, 2, 0), 2);
        due("tint(1, 2, 1)", x.tint(1, 2, 1), 0);
        due("the other graph has its own tints", x.tint(0, 2, 0), 0);
        due("another vertex has its own tint", x.tint(1, 3, 0), 0);
        due("tint(1, 2, 1) again", x.tint(1, 2, 1), 1);
    }

    private static void exchange() {
        CHECKS.promise(5, "two vertices are exchanged");
        GraphTwins x = Drawing.begun(3);
        Drawing.tints(x, 0, 1, 0, 3);
        Drawing.labels(x, 0, "013", "200", "020");
        due("exchange(0, 0, 2)", x.exchange(0, 0, 2), 0);
        due("tint of 0", x.tint(0, 0, 3), 3);
        due("tint of 1", x.tint(0, 1, 0), 0);
        due("tint of 2", x.tint(0, 2, 1), 1);
        due("label from 2 to 1", x.label(0, 2, 1, 1), 1);
        due("label from 1 to 2", x.label(0, 1, 2, 2), 2);
        due("label from 2 to 0", x.label(0, 2, 0, 3), 3);
        due("label from 0 to 2", x.label(0, 0, 2, 0), 0);
        due("label from 0 to 1", x.label(0, 0, 1, 2), 2);
        due("label from 1 to 0", x.label(0, 1, 0, 0), 0);
        due("the other graph stays", x.count(2), 0);
    }

    private static void copy() {
        CHECKS.promise(6, "a graph becomes as the other one is");
        GraphTwins x = Drawing.begun(6);
        x.label(0, 0, 5, 3);
        x.tint(0, 5, 2);
        x.label(1, 3, 4, 1);
        due("copy(1)", x.copy(1), 0);
        due("no label is left over", x.label(1, 3, 4, 0), 0);
        due("label of the copy", x.label(1, 0, 5, 3), 3);
        due("tint of the copy", x.tint(1, 5, 2), 2);
        due("label of the other one", x.label(0, 0, 5, 3), 3);
        x.label(1, 0, 5, 1);
        x.tint(1, 0, 1);
        due("copy(0)", x.copy(0), 0);
        due("label copied back", x.label(0, 0, 5, 1), 1);
        due("tint copied back", x.tint(0, 0, 1), 1);
    }

    private static void colours() {
        CHECKS.promise(7, "how many colours there are");
        GraphTwins x = Drawing.begun(6);
        Drawing.edge(x, 0, 0, 1, 1);
        due("an edge", x.colours(), 3);
        Drawing.edge(x, 0, 0, 1, 0);
        due("an edge taken away", x.colours(), 1);
        x.label(0, 0, 1, 1);
        due("an edge one way", x.colours(), 4);
        x.begin(6);
        Drawing.cycle(x, 0, 0, 6);
        Drawing.cycle(x, 1, 0, 3);
        Drawing.cycle(x, 1, 3, 3);
        due("a cycle, and two", x.colours(), 1);
        x.tint(1, 0, 3);
        due("a cycle, and two with a tint", x.colours(), 4);
        due("the long cycle: no edge to three of colour 0, an edge to two", x.colour(0, 5), 0);
        due("the tinted triangle's others: no edge to three, an edge to one", x.colour(1, 1), 1);
        due("the other triangle: no edge to two of colour 0", x.colour(1, 4), 2);
        due("the tinted vertex", x.colour(1, 0), 3);
    }

    private static void coloursInRounds() {
        CHECKS.promise(7, "rounds are done until one gives no more colours");
        GraphTwins x = Drawing.begun(9);
        Drawing.path(x, 0, 9, 1);
        x.copy(1);
        due("a path", x.colours(), 5);
        for (int v = 0; v < 9; v++) {
            due("the same from both ends", x.colour(0, v), x.colour(1, 8 - v));
        }
        x.tint(1, 0, 1);
        due("a path with a tinted end", x.colours(), 14);
    }

    private static void colour() {
        CHECKS.promise(8, "the colour of a vertex");
        GraphTwins x = Drawing.begun(4);
        x.tint(0, 2, 3);
        x.tint(1, 0, 1);
        due("tint 3", x.colour(0, 2), 3);
        due("tint 1", x.colour(1, 0), 2);
        due("three vertices and a tint 1 are before", x.colour(1, 1), 0);
        due("three vertices and a tint 3 are behind", x.colour(0, 0), 1);
    }

    private static void colourOrder() {
        CHECKS.promise(8, "who has more where they differ first is before");
        GraphTwins x = Drawing.begun(3);
        x.label(0, 0, 1, 1);
        x.label(1, 0, 1, 2);
        due("colours()", x.colours(), 6);
        due("no edge, and others that are before: parted in the second round", x.colour(0, 2), 0);
        due("no edge, and others that are behind", x.colour(1, 2), 1);
        due("from which the label is 1 (p 1)", x.colour(0, 1), 2);
        due("from which the label is 2 (p 2)", x.colour(1, 1), 3);
        due("to which the label is 1 (p 4)", x.colour(0, 0), 4);
        due("to which the label is 2 (p 8)", x.colour(1, 0), 5);
        x.begin(3);
        Drawing.path(x, 0, 3, 3);
        x.copy(1);
        due("the middle has the fewest without an edge", x.colour(0, 1), 1);
        due("the ends", x.colour(0, 0), 0);
    }

    private static void twins() {
        CHECKS.promise(9, "whether some naming leads graph 0 to graph 1");
        GraphTwins x = Drawing.begun(9);
        x.label(0, 0, 1, 2);
        due("an edge", x.twins(), 0);
        x.label(1, 8, 7, 2);
        due("an edge each", x.twins(), 1);
        CHECKS.dueNaming("an edge moved", x, 8, 7, 0, 1, 2, 3, 4, 5, 6);
        x.label(0, 0, 1, 1);
        due("another label", x.twins(), 0);
    }

    private static void twinsOfAllMarks() {
        CHECKS.promise(9, "whether some naming leads graph 0 to graph 1, with all kinds of marks");
        GraphTwins x = Drawing.begun(5);
        Drawing.tints(x, 0, 3, 1, 3, 1, 3);
        Drawing.labels(x, 0, "01230", "30021", "11001", "02302", "13120");
        x.copy(1);
        x.exchange(1, 0, 4);
        x.exchange(1, 1, 3);
        due("a graph named anew", x.twins(), 1);
        CHECKS.dueNaming("named anew", x, 4, 3, 2, 1, 0);
        due("no other naming", x.next(), 0);
        int was = x.label(1, 2, 3, 3);
        x.label(1, 2, 3, (was + 1) % 4);
        due("one other label", x.twins(), 0);
        x.label(1, 2, 3, was);
        due("the label back", x.twins(), 1);
        x.tint(1, 4, 1);
        due("one other tint", x.twins(), 0);
    }

    private static void image() {
        CHECKS.promise(10, "where the naming at hand leads a vertex");
        GraphTwins x = Drawing.begun(9);
        x.tint(0, 0, 1);
        x.tint(1, 8, 1);
        due("twins()", x.twins(), 1);
        CHECKS.dueNaming("a tint moved", x, 8, 0, 1, 2, 3, 4, 5, 6, 7);
        x.next();
        CHECKS.dueNaming("the next one", x, 8, 0, 1, 2, 3, 4, 5, 7, 6);
    }

    private static void next() {
        CHECKS.promise(11, "the next naming is at hand then");
        GraphTwins x = Drawing.begun(3);
        x.twins();
        int[][] namings = {{0, 2, 1}, {1, 0, 2}, {1, 2, 0}, {2, 0, 1}, {2, 1, 0}};
        for (int[] naming : namings) {
            due("next()", x.next(), 1);
            CHECKS.dueNaming("in order", x, naming);
        }
        due("next() behind the last one", x.next(), 0);
        x.begin(9);
        Drawing.cycle(x, 0, 0, 9);
        Drawing.cycle(x, 1, 0, 9);
        x.exchange(1, 0, 4);
        due("twins()", x.twins(), 1);
        for (int i = 1; i < 18; i++) {
            due("next() of a cycle of nine", x.next(), 1);
        }
        due("a cycle of nine has eighteen", x.next(), 0);
    }

    private static void symmetries() {
        CHECKS.promise(12, "how many symmetries a graph has");
        GraphTwins x = Drawing.begun(9);
        Drawing.cycle(x, 0, 0, 3);
        Drawing.cycle(x, 0, 3, 3);
        Drawing.cycle(x, 0, 6, 3);
        due("three triangles", x.symmetries(0), 1296);
        due("the other graph", x.symmetries(1), 362880);
        x.label(0, 0, 1, 0);
        due("one label gone", x.symmetries(0), 72);
        x.tint(0, 3, 3);
        due("a tint", x.symmetries(0), 12);
        x.begin(9);
        Drawing.labels(x, 0, "011100100", "101010010", "110001001", "100011100", "010101010", "001110001",
            "100100011", "010010101", "001001110");
        due("three rows by three", x.symmetries(0), 72);
    }

    private static void orbit() {
        CHECKS.promise(13, "the least vertex of an orbit");
        GraphTwins x = Drawing.begun(9);
        Drawing.path(x, 1, 9, 2);
        for (int v = 0; v < 9; v++) {
            due("a path: orbit(1, " + v + ")", x.orbit(1, v), Math.min(v, 8 - v));
        }
        x.tint(1, 8, 1);
        for (int v = 0; v < 9; v++) {
            due("a path with a tinted end: orbit(1, " + v + ")", x.orbit(1, v), v);
        }
    }

    private static void form() {
        CHECKS.promise(14, "a graph's form");
        GraphTwins x = Drawing.begun(3);
        Drawing.edge(x, 0, 0, 1, 1);
        Drawing.edge(x, 0, 0, 2, 1);
        CHECKS.dueForm("a path", x, 0, 0, 0, 0, 0, 0, 1, 1, 1, 1);
        x.label(0, 1, 0, 2);
        CHECKS.dueForm("a path with another label", x, 0, 0, 0, 0, 0, 0, 1, 1, 1, 2);
        x.tint(0, 2, 1);
        CHECKS.dueForm("a path with a tinted end", x, 0, 0, 0, 1, 2, 1, 0, 0, 1, 1);
        x.begin(2);
        Drawing.tints(x, 1, 3, 2);
        x.label(1, 0, 1, 1);
        x.label(1, 1, 0, 3);
        CHECKS.dueForm("all marks", x, 1, 2, 3, 1, 3);
        x.exchange(1, 0, 1);
        CHECKS.dueForm("all marks exchanged", x, 1, 2, 3, 1, 3);
    }

    private static void formOfAStar() {
        CHECKS.promise(14, "a star's form");
        GraphTwins x = Drawing.begun(9);
        for (int v = 0; v < 8; v++) {
            x.label(0, 8, v, v % 2 == 0 ? 3 : 1);
        }
        for (int i = 0; i < 65; i++) {
            due("the other vertices are first", x.form(0, i), 0);
        }
        for (int j = 0; j < 8; j++) {
            due("the labels in order", x.form(0, 65 + 2 * j), j < 4 ? 1 : 3);
            due("the labels back", x.form(0, 66 + 2 * j), 0);
        }
    }

    private static void compare() {
        CHECKS.promise(15, "whether a graph's form is less than that of the other one");
        GraphTwins x = Drawing.begun(9);
        Drawing.cycle(x, 0, 0, 9);
        Drawing.cycle(x, 1, 0, 9);
        x.exchange(1, 0, 5);
        CHECKS.dueCompared("twins", x, 0);
        Drawing.edge(x, 1, 0, 1, 3);
        CHECKS.dueCompared("a label less", x, -1);
        x.begin(2);
        x.label(0, 0, 1, 1);
        x.label(1, 0, 1, 2);
        CHECKS.dueCompared("a lesser label", x, -1);
        x.tint(0, 0, 1);
        CHECKS.dueCompared("a greater tint", x, 1);
    }

    private static void count() {
        CHECKS.promise(16, "n, edges, whether a naming is at hand, numbers of a form");
        GraphTwins x = Drawing.begun(6);
        x.label(0, 0, 1, 3);
        x.label(0, 1, 0, 1);
        x.label(0, 5, 4, 2);
        x.label(1, 5, 4, 2);
        due("count(0)", x.count(0), 6);
        due("count(1)", x.count(1), 3);
        due("count(2)", x.count(2), 1);
        due("count(3)", x.count(3), 0);
        due("count(4)", x.count(4), 36);
        x.copy(0);
        due("count(1) behind copy", x.count(1), 1);
        x.twins();
        due("count(3) with a naming at hand", x.count(3), 1);
    }
}
