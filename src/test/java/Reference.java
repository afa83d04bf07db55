import java.util.ArrayList;
import java.util.Arrays;
import java.util.List;

/** The document's words done as plainly as can be: every naming is tried, every count is made. */
final class Reference {
    private int n = 1;
    private int[][] tints = new int[2][1];
    private int[][][] labels = new int[2][1][1];
    private int[] atHand = null;

    int begin(int size) {
        if (size < 1 || size > 9) {
            return -1;
        }
        n = size;
        tints = new int[2][n];
        labels = new int[2][n][n];
        atHand = null;
        return 0;
    }

    int label(int g, int u, int v, int label) {
        if (badGraph(g) || badVertex(u) || badVertex(v) || label < 0 || label > 3 || u == v) {
            return -1;
        }
        int was = labels[g][u][v];
        labels[g][u][v] = label;
        atHand = null;
        return was;
    }

    int tint(int g, int v, int tint) {
        if (badGraph(g) || badVertex(v) || tint < 0 || tint > 3) {
            return -1;
        }
        int was = tints[g][v];
        tints[g][v] = tint;
        atHand = null;
        return was;
    }

    int exchange(int g, int u, int v) {
        if (badGraph(g) || badVertex(u) || badVertex(v)) {
            return -1;
        }
        int[] oldTints = tints[g];
        int[][] oldLabels = labels[g];
        tints[g] = new int[n];
        labels[g] = new int[n][n];
        for (int a = 0; a < n; a++) {
            tints[g][a] = oldTints[exchanged(a, u, v)];
            for (int b = 0; b < n; b++) {
                labels[g][a][b] = oldLabels[exchanged(a, u, v)][exchanged(b, u, v)];
            }
        }
        atHand = null;
        return 0;
    }

    private static int exchanged(int a, int u, int v) {
        return a == u ? v : a == v ? u : a;
    }

    int copy(int g) {
        if (badGraph(g)) {
            return -1;
        }
        tints[g] = tints[1 - g].clone();
        for (int u = 0; u < n; u++) {
            labels[g][u] = labels[1 - g][u].clone();
        }
        atHand = null;
        return 0;
    }

    int colours() {
        int most = 0;
        for (int[] row : paint()) {
            for (int colour : row) {
                most = Math.max(most, colour);
            }
        }
        return most + 1;
    }

    int colour(int g, int v) {
        return badGraph(g) || badVertex(v) ? -1 : paint()[g][v];
    }

    int twins() {
        atHand = firstBehind(null);
        return atHand == null ? 0 : 1;
    }

    int image(int v) {
        return badVertex(v) || atHand == null ? -1 : atHand[v];
    }

    int next() {
        if (atHand == null) {
            return -1;
        }
        atHand = firstBehind(atHand);
        return atHand == null ? 0 : 1;
    }

    int symmetries(int g) {
        if (badGraph(g)) {
            return -1;
        }
        int number = 0;
        for (int[] naming = firstNaming(); naming != null; naming = nextNaming(naming)) {
            if (leads(naming, g, g)) {
                number++;
            }
        }
        return number;
    }

    int orbit(int g, int v) {
        if (badGraph(g) || badVertex(v)) {
            return -1;
        }
        int least = v;
        for (int[] naming = firstNaming(); naming != null; naming = nextNaming(naming)) {
            if (naming[v] < least && leads(naming, g, g)) {
                least = naming[v];
            }
        }
        return least;
    }

    int form(int g, int i) {
        return badGraph(g) || i < 0 || i >= n * n ? -1 : leastWritten(g)[i];
    }

    int compare(int g) {
        return badGraph(g) ? -2 : Integer.signum(Arrays.compare(leastWritten(g), leastWritten(1 - g)));
    }

    int count(int which) {
        return switch (which) {
            case 0 -> n;
            case 1 -> edges(0);
            case 2 -> edges(1);
            case 3 -> atHand == null ? 0 : 1;
            case 4 -> written(0, firstNaming()).length;
            default -> -1;
        };
    }

    private static boolean badGraph(int g) {
        return g < 0 || g > 1;
    }

    private boolean badVertex(int v) {
        return v < 0 || v >= n;
    }

    private int edges(int g) {
        int edges = 0;
        for (int[] row : labels[g]) {
            for (int label : row) {
                edges += label > 0 ? 1 : 0;
            }
        }
        return edges;
    }

    private int[] firstNaming() {
        int[] naming = new int[n];
        for (int v = 0; v < n; v++) {
            naming[v] = v;
        }
        return naming;
    }

    /** The naming that is the next in order of all there are, or null. */
    private int[] nextNaming(int[] naming) {
        int[] row = naming.clone();
        int at = n - 2;
        while (at >= 0 && row[at] > row[at + 1]) {
            at--;
        }
        if (at < 0) {
            return null;
        }
        int with = n - 1;
        while (row[with] < row[at]) {
            with--;
        }
        int kept = row[at];
        row[at] = row[with];
        row[with] = kept;
        Arrays.sort(row, at + 1, n);
        return row;
    }

    private int[] firstBehind(int[] start) {
        int[] naming = start == null ? firstNaming() : nextNaming(start);
        while (naming != null && !leads(naming, 0, 1)) {
            naming = nextNaming(naming);
        }
        return naming;
    }

    private boolean leads(int[] naming, int g, int h) {
        for (int v = 0; v < n; v++) {
            if (tints[g][v] != tints[h][naming[v]]) {
                return false;
            }
            for (int w = 0; w < n; w++) {
                if (labels[g][v][w] != labels[h][naming[v]][naming[w]]) {
                    return false;
                }
            }
        }
        return true;
    }

    private int[] written(int g, int[] naming) {
        int[] row = new int[n * n];
        int filled = 0;
        for (int i = 0; i < n; i++) {
            row[filled++] = tints[g][naming[i]];
            for (int j = 0; j < i; j++) {
                row[filled++] = labels[g][naming[i]][naming[j]];
                row[filled++] = labels[g][naming[j]][naming[i]];
            }
        }
        return row;
    }

    private int[] leastWritten(int g) {
        int[] least = written(g, firstNaming());
        for (int[] naming = firstNaming(); naming != null; naming = nextNaming(naming)) {
            int[] row = written(g, naming);
            if (Arrays.compare(row, least) < 0) {
                least = row;
            }
        }
        return least;
    }

    private int[][] paint() {
        int[][] colours = {tints[0].clone(), tints[1].clone()};
        int number = renumber(colours, 0);
        while (true) {
            int before = number;
            number = renumber(colours, number);
            if (number == before) {
                return colours;
            }
        }
    }

    /** A vertex as what it is compared by: its colour, then its counts for each p and colour below number, negated. */
    private int renumber(int[][] colours, int number) {
        int[][][] marks = new int[2][n][];
        List<int[]> kinds = new ArrayList<>();
        for (int g = 0; g < 2; g++) {
            for (int v = 0; v < n; v++) {
                marks[g][v] = marksOf(g, v, colours, number);
                kinds.add(marks[g][v]);
            }
        }
        kinds.sort(Arrays::compare);
        int given = 0;
        for (int k = 0; k < kinds.size(); k++) {
            if (k == 0 || !Arrays.equals(kinds.get(k - 1), kinds.get(k))) {
                for (int g = 0; g < 2; g++) {
                    for (int v = 0; v < n; v++) {
                        if (Arrays.equals(marks[g][v], kinds.get(k))) {
                            colours[g][v] = given;
                        }
                    }
                }
                given++;
            }
        }
        return given;
    }

    private int[] marksOf(int g, int v, int[][] colours, int number) {
        int[] marks = new int[1 + 16 * number];
        marks[0] = colours[g][v];
        for (int p = 0; p < 16; p++) {
            for (int c = 0; c < number; c++) {
                for (int w = 0; w < n; w++) {
                    boolean counts = w != v && colours[g][w] == c;
                    if (counts && labels[g][v][w] == p / 4 && labels[g][w][v] == p % 4) {
                        marks[1 + p * number + c]--;
                    }
                }
            }
        }
        return marks;
    }
}
