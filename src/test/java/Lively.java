import java.util.ArrayList;
import java.util.List;

/** Twins with all kinds of marks on them, on which calls are tried that are to be refused. */
final class Lively {
    static final int SIZE = 5;
    static final int[] WRONG_GRAPHS = {-1, 2, -2, 3, Integer.MIN_VALUE, Integer.MAX_VALUE};
    /** 5 to 8 would be vertices of greater graphs. */
    static final int[] WRONG_VERTICES = {-1, SIZE, 6, 8, 9, Integer.MIN_VALUE, Integer.MAX_VALUE};
    static final int[] WRONG_MARKS = {-1, 4, 5, Integer.MIN_VALUE, Integer.MAX_VALUE};

    /** More namings than are left behind any that is at hand here, so that a next() that always answers 1 is seen. */
    private static final int MOST_LEFT = 6;

    interface Call {
        int on(GraphTwins x);
    }

    private Lively() {
    }

    /** Of the six namings the third one is at hand. */
    static GraphTwins made() {
        GraphTwins x = Drawing.begun(SIZE);
        Drawing.tints(x, 0, 3, 2, 1, 1, 1);
        Drawing.labels(x, 0, "03222", "00000", "13011", "13101", "13110");
        x.copy(1);
        x.exchange(1, 0, 3);
        x.exchange(1, 1, 2);
        x.twins();
        x.next();
        x.next();
        return x;
    }

    /** Everything that can be asked without a change. */
    static List<Integer> answers(GraphTwins x) {
        List<Integer> answers = new ArrayList<>();
        int n = x.count(0);
        for (int which = 0; which < 5; which++) {
            answers.add(x.count(which));
        }
        for (int v = 0; v < n; v++) {
            answers.add(x.image(v));
        }
        answers.add(x.colours());
        for (int g = 0; g < 2; g++) {
            addAnswersOf(answers, x, g, n);
        }
        return answers;
    }

    private static void addAnswersOf(List<Integer> answers, GraphTwins x, int g, int n) {
        answers.add(x.symmetries(g));
        answers.add(x.compare(g));
        for (int v = 0; v < n; v++) {
            answers.add(x.colour(g, v));
            answers.add(x.orbit(g, v));
        }
        for (int i = 0; i < n * n; i++) {
            answers.add(x.form(g, i));
        }
    }

    /** Which namings are still to come, then all tints and labels, which are gone then. */
    static List<Integer> rest(GraphTwins x) {
        List<Integer> rest = new ArrayList<>();
        int n = x.count(0);
        for (int left = 0; left < MOST_LEFT && x.next() == 1; left++) {
            for (int v = 0; v < n; v++) {
                rest.add(x.image(v));
            }
        }
        rest.addAll(marks(x, 0));
        rest.addAll(marks(x, 1));
        return rest;
    }

    /** All tints and labels of a graph, row by row, which are gone then. */
    static List<Integer> marks(GraphTwins x, int g) {
        List<Integer> marks = new ArrayList<>();
        int n = x.count(0);
        for (int u = 0; u < n; u++) {
            marks.add(x.tint(g, u, 0));
            for (int v = 0; v < n; v++) {
                if (u != v) {
                    marks.add(x.label(g, u, v, 0));
                }
            }
        }
        return marks;
    }

    /** The call answers so, and nothing that can be asked is another than it was, nor what comes later. */
    static void dueRefused(Checks checks, String name, int want, Call call) {
        GraphTwins x = made();
        List<Integer> before = answers(x);
        checks.due(name, call.on(x), want);
        checks.due("what " + name + " leaves", answers(x), before);
        checks.due("what comes behind " + name, rest(x), rest(made()));
    }
}
