/** Counts the calls whose answer is not the one that is due, and prints each of them. */
final class Checks {
    private int made;
    private int wrong;
    private int tests;

    /** One sentence of the document, and what looks at it; a test that looks at nothing is wrong. */
    void test(String sentence, Runnable look) {
        tests++;
        int madeBefore = made;
        int wrongBefore = wrong;
        try {
            look.run();
        } catch (RuntimeException | Error thrown) {
            wrong++;
            System.out.println("thrown: " + thrown + " at " + thrown.getStackTrace()[0]);
        }
        if (made == madeBefore) {
            wrong++;
            System.out.println("nothing was looked at");
        }
        if (wrong != wrongBefore) {
            System.out.println("FAILED: " + sentence);
        }
    }

    void due(String call, int got, int want) {
        made++;
        if (got != want) {
            wrong++;
            System.out.println(call + " answered " + got + ", due is " + want);
        }
    }

    void due(String call, boolean got, boolean want) {
        due(call, got ? 1 : 0, want ? 1 : 0);
    }

    void close() {
        String named = tests == 0 ? "" : tests + " sentences, ";
        System.out.println(named + made + " answers looked at, " + wrong + " not as due");
        if (wrong != 0 || made == 0) {
            System.exit(1);
        }
    }
}
