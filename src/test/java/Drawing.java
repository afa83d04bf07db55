/** Draws graphs for the tests. */
final class Drawing {
    private Drawing() {
    }

    static GraphTwins begun(int n) {
        GraphTwins x = new GraphTwins();
        x.begin(n);
        return x;
    }

    static void edge(GraphTwins x, int g, int u, int v, int label) {
        x.label(g, u, v, label);
        x.label(g, v, u, label);
    }

    static void path(GraphTwins x, int g, int length, int label) {
        for (int v = 0; v < length - 1; v++) {
            edge(x, g, v, v + 1, label);
        }
    }

    static void cycle(GraphTwins x, int g, int from, int length) {
        for (int i = 0; i < length; i++) {
            edge(x, g, from + i, from + (i + 1) % length, 1);
        }
    }

    /** A cycle whose edges lead one way. */
    static void wheel(GraphTwins x, int g, int length, int label) {
        for (int v = 0; v < length; v++) {
            x.label(g, v, (v + 1) % length, label);
        }
    }

    /** Two cycles one way, so numbered that it matters that labels are looked at both ways. */
    static void crossedWheels(GraphTwins x) {
        x.begin(5);
        labels(x, 0, "00001", "00100", "00010", "10000", "01000");
        labels(x, 1, "00001", "00010", "01000", "10000", "00100");
    }

    /** From each vertex an edge to each lesser one, so that no two are alike. */
    static void ladder(GraphTwins x, int g, int n, int label) {
        for (int u = 1; u < n; u++) {
            for (int v = 0; v < u; v++) {
                x.label(g, u, v, label);
            }
        }
    }

    static void tints(GraphTwins x, int g, int... tints) {
        for (int v = 0; v < tints.length; v++) {
            x.tint(g, v, tints[v]);
        }
    }

    /** Row u has a digit for the label from u to each vertex. */
    static void labels(GraphTwins x, int g, String... rows) {
        for (int u = 0; u < rows.length; u++) {
            for (int v = 0; v < rows.length; v++) {
                if (u != v) {
                    x.label(g, u, v, rows[u].charAt(v) - '0');
                }
            }
        }
    }

    /** The greatest tints and labels everywhere. */
    static void fill(GraphTwins x, int g, int n) {
        for (int u = 0; u < n; u++) {
            x.tint(g, u, 3);
            for (int v = 0; v < n; v++) {
                x.label(g, u, v, 3);
            }
        }
    }
}
