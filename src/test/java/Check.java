/** Counts the answers of one test that are not as due, and ends it with exit code 1 if there was one. */
final class Check {
    private static final int MOST_PRINTED = 40;

    private int asked = 0;
    private int wrong = 0;
    private int edges = 0;
    private String prefix = "";

    void same(String what, long got, long due) {
        asked++;
        if (got != due) {
            tell(what + " answered " + got + ", due is " + due);
        }
    }

    void yes(String what, boolean got) {
        same(what, got ? 1 : 0, 1);
    }

    void no(String what, boolean got) {
        same(what, got ? 1 : 0, 0);
    }

    /** One boundary case that the document names, by the promise (or term) and the words that name it. */
    void edge(String where, String words, Runnable body) {
        int askedBefore = asked;
        edges++;
        prefix = where + ", \"" + words + "\": ";
        try {
            body.run();
        } catch (RuntimeException e) {
            tell("a call threw " + e);
        }
        if (asked == askedBefore) {
            tell("nothing was asked");
        }
        prefix = "";
    }

    void end() {
        System.out.println((edges == 0 ? "" : edges + " boundary cases, ") + asked + " answers asked, " + wrong
            + " not as due");
        if (wrong != 0 || asked == 0) {
            System.exit(1);
        }
    }

    private void tell(String text) {
        wrong++;
        if (wrong <= MOST_PRINTED) {
            System.out.println(prefix + text);
        }
    }
}
