/** What the tests share: counts the answers that are not as due, and ends the test accordingly. */
final class Checks {
    private static final int MOST_PRINTED = 40;

    private int wrong = 0;
    private String sentence = "";

    /** What is checked from here on is what this promise says with these words. */
    void promise(int number, String words) {
        sentence = "promise " + number + ", " + words + ": ";
    }

    void due(String call, long got, long want) {
        if (got != want) {
            fail(call + " answered " + got + ", due is " + want);
        }
    }

    void due(String call, Object got, Object want) {
        if (!got.equals(want)) {
            fail(call + " answered " + got + ", due is " + want);
        }
    }

    /** This naming is at hand. */
    void dueNaming(String name, GraphTwins x, int... naming) {
        due(name + ": count(3)", x.count(3), 1);
        for (int v = 0; v < naming.length; v++) {
            due(name + ": image(" + v + ")", x.image(v), naming[v]);
        }
    }

    /** No naming is at hand. */
    void dueNoNaming(String name, GraphTwins x) {
        due(name + ": count(3)", x.count(3), 0);
        for (int v = 0; v < x.count(0); v++) {
            due(name + ": image(" + v + ")", x.image(v), GraphTwins.BAD);
        }
        due(name + ": next()", x.next(), GraphTwins.BAD);
    }

    void dueForm(String name, GraphTwins x, int g, int... form) {
        for (int i = 0; i < form.length; i++) {
            due(name + ": form(" + g + ", " + i + ")", x.form(g, i), form[i]);
        }
        due(name + ": form behind its last number", x.form(g, form.length), GraphTwins.BAD);
    }

    /** Graph 0 is so compared with graph 1, and graph 1 the other way round with graph 0. */
    void dueCompared(String name, GraphTwins x, int want) {
        due(name + ": compare(0)", x.compare(0), want);
        due(name + ": compare(1)", x.compare(1), -want);
    }

    void fail(String text) {
        wrong++;
        if (wrong <= MOST_PRINTED) {
            System.out.println(sentence + text);
        }
    }

    boolean allRight() {
        return wrong == 0;
    }

    void end() {
        System.out.println(wrong == 0 ? "all as due" : wrong + " not as due");
        if (wrong != 0) {
            System.exit(1);
        }
    }
}
