/** What the tests share: counts the answers that are not as due, and ends the test accordingly. */
final class Checks {
    private static final int MOST_PRINTED = 40;

    private int wrong = 0;

    void due(String call, long got, long want) {
        if (got != want) {
            fail(call + " answered " + got + ", due is " + want);
        }
    }

    void fail(String text) {
        wrong++;
        if (wrong <= MOST_PRINTED) {
            System.out.println(text);
        }
    }

    boolean allRight() {
        return wrong == 0;
    }

    void end() {
        System.out.println(wrong == 0 ? "all as due" : wrong + " not as due");
        if (wrong != 0) {
            System.exit(1);
        }
    }
}
