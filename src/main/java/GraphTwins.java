import java.util.Arrays;

/** Two graphs side by side: see README.md for how to use it. */
public final class GraphTwins {
    public static final int BAD = -1;

    /** What compare refuses with, as its - 1 is an answer. */
    private static final int BAD_COMPARE = -2;
    private static final int MOST_VERTICES = 9;
    private static final int GREATEST_MARK = 3;

    private final Graph[] graphs = new Graph[2];
    private final Painter painter = new Painter();
    private final NamingSeeker seeker = new NamingSeeker();
    private final SymmetryFinder symmetryFinder = new SymmetryFinder();
    private final FormFinder formFinder = new FormFinder();
    private boolean painted;
    private boolean atHand;

    public GraphTwins() {
        graphs[0] = new Graph();
        graphs[1] = new Graph();
    }

    public int begin(int n) {
        if (n < 1 || n > MOST_VERTICES) {
            return BAD;
        }
        graphs[0].empty(n);
        graphs[1].empty(n);
        noteChange(graphs[0]);
        noteChange(graphs[1]);
        return 0;
    }

    public int label(int g, int u, int v, int label) {
        if (!isVertex(g, u) || !isVertex(g, v) || !isMark(label) || u == v) {
            return BAD;
        }
        Graph graph = graphs[g];
        int was = graph.labels[u][v];
        graph.labels[u][v] = label;
        noteChange(graph);
        return was;
    }

    public int tint(int g, int v, int tint) {
        if (!isVertex(g, v) || !isMark(tint)) {
            return BAD;
        }
        Graph graph = graphs[g];
        int was = graph.tints[v];
        graph.tints[v] = tint;
        noteChange(graph);
        return was;
    }

    public int exchange(int g, int u, int v) {
        if (!isVertex(g, u) || !isVertex(g, v)) {
            return BAD;
        }
        graphs[g].swap(u, v);
        noteChange(graphs[g]);
        return 0;
    }

    public int copy(int g) {
        if (!isGraph(g)) {
            return BAD;
        }
        graphs[g].become(graphs[1 - g]);
        noteChange(graphs[g]);
        return 0;
    }

    public int colours() {
        paintGraphs();
        return painter.number;
    }

    public int colour(int g, int v) {
        if (!isVertex(g, v)) {
            return BAD;
        }
        paintGraphs();
        return graphs[g].colours[v];
    }

    public int twins() {
        paintGraphs();
        atHand = painter.paintsAlike(graphs) && seeker.findFirst(graphs[0], graphs[1]);
        return atHand ? 1 : 0;
    }

    public int image(int v) {
        return atHand && isVertex(0, v) ? seeker.naming[v] : BAD;
    }

    public int next() {
        if (!atHand) {
            return BAD;
        }
        atHand = seeker.findNext(graphs[0], graphs[1]);
        return atHand ? 1 : 0;
    }

    public int symmetries(int g) {
        return isGraph(g) ? withSymmetries(g).symmetryNumber : BAD;
    }

    public int orbit(int g, int v) {
        return isVertex(g, v) ? withSymmetries(g).leastOfOrbit[v] : BAD;
    }

    public int form(int g, int i) {
        if (!isGraph(g) || i < 0 || i >= formLength()) {
            return BAD;
        }
        return withForm(g).formNumber(i);
    }

    public int compare(int g) {
        if (!isGraph(g)) {
            return BAD_COMPARE;
        }
        return compareRows(withForm(g).formRows, withForm(1 - g).formRows, graphs[g].size);
    }

    public int count(int which) {
        switch (which) {
            case 0:
                return graphs[0].size;
            case 1:
                return graphs[0].edges();
            case 2:
                return graphs[1].edges();
            case 3:
                return atHand ? 1 : 0;
            case 4:
                return formLength();
            default:
                return BAD;
        }
    }

    private static boolean isGraph(int g) {
        return g == 0 || g == 1;
    }

    private boolean isVertex(int g, int v) {
        return isGraph(g) && v >= 0 && v < graphs[g].size;
    }

    private static boolean isMark(int mark) {
        return mark >= 0 && mark <= GREATEST_MARK;
    }

    private int formLength() {
        return graphs[0].size * graphs[0].size;
    }

    private void noteChange(Graph graph) {
        graph.symmetriesKnown = false;
        graph.formKnown = false;
        painted = false;
        atHand = false;
    }

    private void paintGraphs() {
        if (!painted) {
            painter.paint(graphs);
            painted = true;
        }
    }

    private Graph withSymmetries(int g) {
        Graph graph = graphs[g];
        if (!graph.symmetriesKnown) {
            paintGraphs();
            symmetryFinder.find(graph);
            graph.symmetriesKnown = true;
        }
        return graph;
    }

    private Graph withForm(int g) {
        Graph graph = graphs[g];
        if (!graph.formKnown) {
            formFinder.find(graph);
            graph.formKnown = true;
        }
        return graph;
    }

    private static int compareRows(long[] one, long[] other, int length) {
        for (int i = 0; i < length; i++) {
            if (one[i] != other[i]) {
                return one[i] < other[i] ? -1 : 1;
            }
        }
        return 0;
    }

    /** A graph, and what has been found out about it since it was last changed. */
    private static final class Graph {
        int size = 1;
        final int[] tints = new int[MOST_VERTICES];
        final int[][] labels = new int[MOST_VERTICES][MOST_VERTICES];
        final int[] colours = new int[MOST_VERTICES];
        final int[] leastOfOrbit = new int[MOST_VERTICES];
        int symmetryNumber;
        boolean symmetriesKnown;
        final long[] formRows = new long[MOST_VERTICES];
        boolean formKnown;

        void empty(int newSize) {
            size = newSize;
            Arrays.fill(tints, 0);
            for (int v = 0; v < MOST_VERTICES; v++) {
                Arrays.fill(labels[v], 0);
            }
        }

        void become(Graph other) {
            System.arraycopy(other.tints, 0, tints, 0, MOST_VERTICES);
            for (int v = 0; v < MOST_VERTICES; v++) {
                System.arraycopy(other.labels[v], 0, labels[v], 0, MOST_VERTICES);
            }
        }

        void swap(int u, int v) {
            int tint = tints[u];
            tints[u] = tints[v];
            tints[v] = tint;
            for (int w = 0; w < size; w++) {
                int label = labels[u][w];
                labels[u][w] = labels[v][w];
                labels[v][w] = label;
            }
            for (int w = 0; w < size; w++) {
                int label = labels[w][u];
                labels[w][u] = labels[w][v];
                labels[w][v] = label;
            }
        }

        int edges() {
            int edges = 0;
            for (int u = 0; u < size; u++) {
                for (int v = 0; v < size; v++) {
                    if (labels[u][v] > 0) {
                        edges++;
                    }
                }
            }
            return edges;
        }

        /** Both labels between two vertices in one number, that from u to v being the greater part. */
        int pair(int u, int v) {
            return 4 * labels[u][v] + labels[v][u];
        }

        /** Whether nothing changes if only u and v are exchanged. */
        boolean isAlike(int u, int v) {
            if (tints[u] != tints[v] || labels[u][v] != labels[v][u]) {
                return false;
            }
            for (int w = 0; w < size; w++) {
                if (w != u && w != v && pair(u, w) != pair(v, w)) {
                    return false;
                }
            }
            return true;
        }

        /** Row r of a form has 2 r + 1 numbers of two bits each, so that r * r numbers stand before it. */
        int formNumber(int i) {
            int row = 0;
            while (row < size - 1 && (row + 1) * (row + 1) <= i) {
                row++;
            }
            int behind = row * row + 2 * row - i;
            return (int) (formRows[row] >> (2 * behind)) & 3;
        }
    }

    /** Gives the vertices of both graphs their colours; vertex v of graph g is its spot g * MOST_VERTICES + v. */
    private static final class Painter {
        private static final int SPOTS = 2 * MOST_VERTICES;

        int number;
        private final int[] colourOf = new int[SPOTS];
        private final int[] newColourOf = new int[SPOTS];
        private final int[] sorted = new int[SPOTS];
        private final int[] tally = new int[SPOTS];
        /** For each spot a key for each other vertex of its graph, in order. */
        private final int[][] keys = new int[SPOTS][MOST_VERTICES];

        void paint(Graph[] graphs) {
            int size = graphs[0].size;
            paintTints(graphs, size);
            for (int round = 0; round < SPOTS; round++) {
                int before = number;
                gatherKeys(graphs, size);
                renumber(2 * size, size - 1);
                if (number == before) {
                    break;
                }
            }
            for (int g = 0; g < 2; g++) {
                System.arraycopy(colourOf, g * MOST_VERTICES, graphs[g].colours, 0, size);
            }
        }

        /** Whether each colour is on as many vertices of the one graph as of the other one. */
        boolean paintsAlike(Graph[] graphs) {
            Arrays.fill(tally, 0);
            for (int v = 0; v < graphs[0].size; v++) {
                tally[graphs[0].colours[v]]++;
                tally[graphs[1].colours[v]]--;
            }
            for (int c = 0; c < number; c++) {
                if (tally[c] != 0) {
                    return false;
                }
            }
            return true;
        }

        private void paintTints(Graph[] graphs, int size) {
            for (int v = 0; v < size; v++) {
                colourOf[v] = graphs[0].tints[v];
                colourOf[MOST_VERTICES + v] = graphs[1].tints[v];
                sorted[v] = v;
                sorted[size + v] = MOST_VERTICES + v;
            }
            renumber(2 * size, 0);
        }

        private void gatherKeys(Graph[] graphs, int size) {
            for (int v = 0; v < size; v++) {
                gatherKeysOf(graphs[0], v, 0);
                gatherKeysOf(graphs[1], v, MOST_VERTICES);
            }
        }

        /**
         * Who has more of the least key in which two vertices differ has the lesser key
         * where their ordered keys differ first: so the ordered keys stand for all counts of a round.
         */
        private void gatherKeysOf(Graph graph, int v, int firstSpot) {
            int[] row = keys[firstSpot + v];
            int filled = 0;
            for (int w = 0; w < graph.size; w++) {
                if (w != v) {
                    int key = graph.pair(v, w) * SPOTS + colourOf[firstSpot + w];
                    int at = filled;
                    while (at > 0 && row[at - 1] > key) {
                        row[at] = row[at - 1];
                        at--;
                    }
                    row[at] = key;
                    filled++;
                }
            }
        }

        /** New colours for the sorted spots, by their colours and then by so many keys. */
        private void renumber(int spots, int keyCount) {
            sortSpots(spots, keyCount);
            int colour = 0;
            for (int i = 0; i < spots; i++) {
                if (i > 0 && difference(sorted[i - 1], sorted[i], keyCount) != 0) {
                    colour++;
                }
                newColourOf[sorted[i]] = colour;
            }
            number = colour + 1;
            System.arraycopy(newColourOf, 0, colourOf, 0, SPOTS);
        }

        private void sortSpots(int spots, int keyCount) {
            for (int i = 1; i < spots; i++) {
                int spot = sorted[i];
                int at = i;
                while (at > 0 && difference(sorted[at - 1], spot, keyCount) > 0) {
                    sorted[at] = sorted[at - 1];
                    at--;
                }
                sorted[at] = spot;
            }
        }

        /** Below 0 if one spot is before the other one, above 0 if it is behind. */
        private int difference(int one, int other, int keyCount) {
            if (colourOf[one] != colourOf[other]) {
                return colourOf[one] - colourOf[other];
            }
            for (int k = 0; k < keyCount; k++) {
                if (keys[one][k] != keys[other][k]) {
                    return keys[one][k] - keys[other][k];
                }
            }
            return 0;
        }
    }

    /** Finds namings that lead one painted graph to another one; none leads a vertex to one of another colour. */
    private static final class NamingSeeker {
        final int[] naming = new int[MOST_VERTICES];

        boolean findFirst(Graph from, Graph to) {
            return place(from, to, 0, 0, false);
        }

        /** The naming must be what was found last, and the graphs unchanged since then. */
        boolean findNext(Graph from, Graph to) {
            return place(from, to, 0, 0, true);
        }

        /** Some symmetry that leaves each vertex before v where it is and leads v to w, which is behind v. */
        boolean findSymmetry(Graph graph, int v, int w) {
            for (int u = 0; u < v; u++) {
                naming[u] = u;
            }
            if (!fits(graph, graph, v, w)) {
                return false;
            }
            naming[v] = w;
            int taken = (1 << v) - 1 | 1 << w;
            return place(graph, graph, v + 1, taken, false);
        }

        /**
         * Names vertex v and those behind it. If it resumes, it walks along the naming that is there
         * and refuses it at its end, so that the next one is found.
         */
        private boolean place(Graph from, Graph to, int v, int taken, boolean resumes) {
            if (v >= from.size) {
                return !resumes;
            }
            int start = resumes ? naming[v] : 0;
            for (int w = start; w < to.size; w++) {
                if ((taken >> w & 1) == 0 && fits(from, to, v, w)) {
                    naming[v] = w;
                    if (place(from, to, v + 1, taken | 1 << w, resumes && w == start)) {
                        return true;
                    }
                }
            }
            return false;
        }

        private boolean fits(Graph from, Graph to, int v, int w) {
            if (from.colours[v] != to.colours[w]) {
                return false;
            }
            for (int u = 0; u < v; u++) {
                int image = naming[u];
                if (from.labels[v][u] != to.labels[w][image] || from.labels[u][v] != to.labels[image][w]) {
                    return false;
                }
            }
            return true;
        }
    }

    /** Finds how many symmetries a painted graph has, and the orbits. */
    private static final class SymmetryFinder {
        private final NamingSeeker seeker = new NamingSeeker();

        /**
         * Of the symmetries that leave each vertex before v where it is, equally many lead v to each vertex
         * that it can reach: so their number is a product, and one symmetry for each factor's vertex is enough
         * to make all others, and so all orbits, of.
         */
        void find(Graph graph) {
            for (int v = 0; v < graph.size; v++) {
                graph.leastOfOrbit[v] = v;
            }
            graph.symmetryNumber = 1;
            for (int v = 0; v < graph.size; v++) {
                int reached = 1;
                for (int w = v + 1; w < graph.size; w++) {
                    if (seeker.findSymmetry(graph, v, w)) {
                        reached++;
                        joinOrbits(graph);
                    }
                }
                graph.symmetryNumber *= reached;
            }
        }

        private void joinOrbits(Graph graph) {
            int[] least = graph.leastOfOrbit;
            for (int v = 0; v < graph.size; v++) {
                int one = least[v];
                int other = least[seeker.naming[v]];
                if (one != other) {
                    replace(least, graph.size, Math.max(one, other), Math.min(one, other));
                }
            }
        }

        private static void replace(int[] row, int length, int old, int fresh) {
            for (int i = 0; i < length; i++) {
                if (row[i] == old) {
                    row[i] = fresh;
                }
            }
        }
    }

    /**
     * Finds the form of a graph, a row of numbers for each vertex written. The two-bit numbers of a row are held
     * in one long, so that rows of one length compare as the longs do.
     */
    private static final class FormFinder {
        /** A row has at most 34 bits. */
        private static final long ABOVE_ALL_ROWS = 1L << 40;

        /** rows[d][w]: the row of w, as far as d vertices that are written tell it. */
        private final long[][] rows = new long[MOST_VERTICES][MOST_VERTICES];
        private final long[] written = new long[MOST_VERTICES];
        /** bounds[d * MOST_VERTICES + w]: no form is less in which w is written behind those d vertices. */
        private final long[][] bounds = new long[MOST_VERTICES * MOST_VERTICES][MOST_VERTICES];
        /** For each vertex, as bits, the lesser ones that are like it. */
        private final int[] likes = new int[MOST_VERTICES];

        void find(Graph graph) {
            Arrays.fill(graph.formRows, ABOVE_ALL_ROWS);
            for (int v = 0; v < graph.size; v++) {
                rows[0][v] = graph.tints[v];
                likes[v] = lesserLikes(graph, v);
            }
            write(graph, 0, 0);
        }

        private static int lesserLikes(Graph graph, int v) {
            int found = 0;
            for (int u = 0; u < v; u++) {
                if (graph.isAlike(u, v)) {
                    found |= 1 << u;
                }
            }
            return found;
        }

        /** Tries what can stand behind the first vertices, which are taken: first what promises the least form. */
        private void write(Graph graph, int depth, int taken) {
            if (depth >= graph.size) {
                return;
            }
            int open = candidates(graph, depth, taken);
            for (int v = 0; v < graph.size; v++) {
                if ((open >> v & 1) == 1) {
                    bound(graph, depth, taken, v);
                }
            }
            for (int tried = 0; tried < graph.size; tried++) {
                int v = leastBounded(graph.size, depth, open);
                if (v < 0 || !promisesLess(graph, depth, v)) {
                    return;
                }
                open &= ~(1 << v);
                writeVertex(graph, depth, taken, v);
            }
        }

        /** As bits, the vertices whose row is the least now; of those that are alike one is enough. */
        private int candidates(Graph graph, int depth, int taken) {
            long least = ABOVE_ALL_ROWS;
            int found = 0;
            for (int v = 0; v < graph.size; v++) {
                if ((taken >> v & 1) == 0 && (likes[v] & ~taken) == 0 && rows[depth][v] <= least) {
                    if (rows[depth][v] < least) {
                        found = 0;
                        least = rows[depth][v];
                    }
                    found |= 1 << v;
                }
            }
            written[depth] = least;
            return found;
        }

        /** The rest, in order of what is known of its rows, with 0 for all that is not known. */
        private void bound(Graph graph, int depth, int taken, int v) {
            long[] bound = bounds[depth * MOST_VERTICES + v];
            System.arraycopy(written, 0, bound, 0, depth + 1);
            int filled = depth + 1;
            for (int w = 0; w < graph.size; w++) {
                if (w != v && (taken >> w & 1) == 0) {
                    long row = longerRow(graph, depth, w, v);
                    int at = filled;
                    while (at > depth + 1 && bound[at - 1] > row) {
                        bound[at] = bound[at - 1];
                        at--;
                    }
                    bound[at] = row;
                    filled++;
                }
            }
            for (int i = depth + 2; i < filled; i++) {
                bound[i] <<= 4 * (i - depth - 1);
            }
        }

        private long longerRow(Graph graph, int depth, int w, int v) {
            return rows[depth][w] << 4 | graph.pair(w, v);
        }

        private int leastBounded(int size, int depth, int open) {
            int least = -1;
            for (int v = 0; v < size; v++) {
                if ((open >> v & 1) == 1 && (least < 0 || isBoundLess(size, depth, v, least))) {
                    least = v;
                }
            }
            return least;
        }

        private boolean promisesLess(Graph graph, int depth, int v) {
            return compareRows(bounds[depth * MOST_VERTICES + v], graph.formRows, graph.size) < 0;
        }

        private boolean isBoundLess(int size, int depth, int v, int w) {
            int first = depth * MOST_VERTICES;
            return compareRows(bounds[first + v], bounds[first + w], size) < 0;
        }

        private void writeVertex(Graph graph, int depth, int taken, int v) {
            if (depth == graph.size - 1) {
                System.arraycopy(written, 0, graph.formRows, 0, graph.size);
                return;
            }
            int nowTaken = taken | 1 << v;
            for (int w = 0; w < graph.size; w++) {
                if ((nowTaken >> w & 1) == 0) {
                    rows[depth + 1][w] = longerRow(graph, depth, w, v);
                }
            }
            write(graph, depth + 1, nowTaken);
        }
    }
}
