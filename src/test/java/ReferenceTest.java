/** Runs of calls, made by a fixed rule, whose answers must be those of the plain reference. */
public final class ReferenceTest {
    /** More calls on one object than 512 are not promised; one step of a run is at most ten of them. */
    private static final int MOST_CALLS = 512 - 10;

    private static final Checks CHECKS = new Checks();

    private final GraphTwins twins = new GraphTwins();
    private final Reference reference = new Reference();
    private final StringBuilder log = new StringBuilder();
    private long state;
    private int n = 1;
    private int calls = 0;

    private ReferenceTest(long seed) {
        state = seed;
    }

    public static void main(String[] args) {
        for (int run = 0; run < 240 && CHECKS.allRight(); run++) {
            new ReferenceTest(run).runCalls(1 + run % 6);
        }
        for (int run = 0; run < 6 && CHECKS.allRight(); run++) {
            new ReferenceTest(1000 + run).runCalls(7);
        }
        for (int shape = 0; shape < 6 && CHECKS.allRight(); shape++) {
            new ReferenceTest(2000 + shape).runNine(shape);
        }
        for (int size : new int[] {1, 2, 3, 9}) {
            sweep(size);
        }
        CHECKS.end();
    }

    private int below(int bound) {
        state = state * 6364136223846793005L + 1442695040888963407L;
        return (int) ((state >>> 33) % bound);
    }

    /** Most often good, now and then the first number that is too great or too small. */
    private int nearly(int bound) {
        return below(40) == 0 ? (below(2) == 0 ? -1 : bound) : below(bound);
    }

    private void due(String call, int got, int want) {
        calls++;
        log.append(call).append(' ');
        if (got != want && CHECKS.allRight()) {
            CHECKS.due(log + "\n" + call, got, want);
        }
    }

    private void begin(int size) {
        due("begin(" + size + ")", twins.begin(size), reference.begin(size));
        n = reference.count(0);
    }

    private void runCalls(int size) {
        begin(size);
        int marks = 1 + below(3);
        while (calls <= MOST_CALLS && CHECKS.allRight()) {
            int kind = below(24);
            if (below(60) == 0) {
                begin(nearly(size + 1));
            } else if (kind < 8) {
                change(kind, marks);
            } else {
                ask(kind);
            }
        }
    }

    private void change(int kind, int marks) {
        int g = nearly(2);
        int u = nearly(n);
        int v = nearly(n);
        switch (kind) {
            case 0, 1, 2 -> label(g, u, v, nearly(marks + 1));
            case 3 -> edge(g, u, v, nearly(marks + 1));
            case 4 -> tint(g, u, below(3) == 0 ? nearly(4) : 0);
            case 5, 6 -> exchange(g, u, v);
            default -> copy(g);
        }
    }

    private void ask(int kind) {
        int g = nearly(2);
        int v = nearly(n);
        switch (kind) {
            case 8, 9 -> due("colours()", twins.colours(), reference.colours());
            case 10, 11 -> due("colour(" + g + ", " + v + ")", twins.colour(g, v), reference.colour(g, v));
            case 12, 13 -> askTwins();
            case 14 -> due("image(" + v + ")", twins.image(v), reference.image(v));
            case 15, 16 -> askNext();
            case 17 -> due("symmetries(" + g + ")", twins.symmetries(g), reference.symmetries(g));
            case 18, 19 -> due("orbit(" + g + ", " + v + ")", twins.orbit(g, v), reference.orbit(g, v));
            case 20, 21 -> askForm(g, nearly(n * n));
            case 22 -> due("compare(" + g + ")", twins.compare(g), reference.compare(g));
            default -> askCount(nearly(5));
        }
    }

    private void label(int g, int u, int v, int label) {
        due("label(" + g + ", " + u + ", " + v + ", " + label + ")",
            twins.label(g, u, v, label), reference.label(g, u, v, label));
    }

    private void edge(int g, int u, int v, int label) {
        label(g, u, v, label);
        label(g, v, u, label);
    }

    private void tint(int g, int v, int tint) {
        due("tint(" + g + ", " + v + ", " + tint + ")", twins.tint(g, v, tint), reference.tint(g, v, tint));
    }

    private void exchange(int g, int u, int v) {
        due("exchange(" + g + ", " + u + ", " + v + ")", twins.exchange(g, u, v), reference.exchange(g, u, v));
    }

    private void copy(int g) {
        due("copy(" + g + ")", twins.copy(g), reference.copy(g));
    }

    private void askTwins() {
        due("twins()", twins.twins(), reference.twins());
        askNaming();
    }

    private void askNext() {
        due("next()", twins.next(), reference.next());
        askNaming();
    }

    private void askNaming() {
        for (int v = 0; v < n; v++) {
            due("image(" + v + ")", twins.image(v), reference.image(v));
        }
    }

    private void askForm(int g, int i) {
        due("form(" + g + ", " + i + ")", twins.form(g, i), reference.form(g, i));
    }

    private void askCount(int which) {
        due("count(" + which + ")", twins.count(which), reference.count(which));
    }

    /** Every call with every input that is near a boundary. */
    private static void sweep(int size) {
        int[] inputs = {
            Integer.MIN_VALUE, -2, -1, 0, 1, 2, 3, 4, 5, size - 1, size, size + 1, size * size - 1, size * size,
            8, 9, 10, 80, 81, Integer.MAX_VALUE,
        };
        for (int a : inputs) {
            for (int b : inputs) {
                ReferenceTest run = new ReferenceTest(0);
                run.begin(size);
                run.sweepChanges(a, b, inputs);
                // The reference takes too long to ask it so often about nine vertices.
                if (size < 5) {
                    run.sweepQuestions(a, b);
                }
                run.begin(a);
            }
        }
    }

    private void sweepChanges(int a, int b, int[] inputs) {
        for (int c : inputs) {
            for (int d : inputs) {
                label(a, b, c, d);
            }
            tint(a, b, c);
            exchange(a, b, c);
        }
        copy(a);
        due("colour(" + a + ", " + b + ")", twins.colour(a, b), reference.colour(a, b));
    }

    private void sweepQuestions(int a, int b) {
        askTwins();
        due("image(" + a + ")", twins.image(a), reference.image(a));
        due("symmetries(" + a + ")", twins.symmetries(a), reference.symmetries(a));
        due("orbit(" + a + ", " + b + ")", twins.orbit(a, b), reference.orbit(a, b));
        askForm(a, b);
        due("compare(" + a + ")", twins.compare(a), reference.compare(a));
        askCount(a);
    }

    /** Nine vertices have 362880 namings: few questions, but on graphs of many shapes. */
    private void runNine(int shape) {
        begin(9);
        for (int v = 0; v < 9; v++) {
            draw(shape, v);
        }
        copy(1);
        for (int i = 0; i < 5; i++) {
            exchange(1, below(9), below(9));
        }
        askTwins();
        for (int i = 0; i < 3; i++) {
            askNext();
        }
        due("symmetries(0)", twins.symmetries(0), reference.symmetries(0));
        for (int v = 1; v < 9; v += 3) {
            due("orbit(1, " + v + ")", twins.orbit(1, v), reference.orbit(1, v));
        }
        due("colours()", twins.colours(), reference.colours());
        for (int i = 0; i < 8; i++) {
            askForm(0, 9 + below(72));
        }
        label(0, below(4), 4 + below(5), 3);
        askTwins();
        due("compare(0)", twins.compare(0), reference.compare(0));
    }

    private void draw(int shape, int v) {
        switch (shape) {
            case 0 -> edge(0, v, (v + 1) % 9, 1);
            case 1 -> label(0, v, (v + 2) % 9, 2);
            case 2 -> edge(0, v, v / 3 * 3 + (v + 1) % 3, 1);
            case 3 -> label(0, 8, v, v / 2);
            case 4 -> tint(0, v, v % 3 == 0 ? 1 : 0);
            default -> edge(0, v, below(9), 1 + below(3));
        }
    }
}
