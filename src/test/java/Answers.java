/** Compares answers with those that are due, and ends a test with exit code 1 if one was wrong. */
final class Answers {
    private final String test;
    private int asked = 0;
    private int wrong = 0;

    Answers(String test) {
        this.test = test;
    }

    void due(String call, long got, long want) {
        asked++;
        if (got != want) {
            wrong++;
            System.out.println(test + ": " + call + " answered " + got + ", due is " + want);
        }
    }

    void holds(String claim, boolean so) {
        asked++;
        if (!so) {
            wrong++;
            System.out.println(test + ": not so: " + claim);
        }
    }

    boolean allRight() {
        return wrong == 0;
    }

    void end() {
        System.out.println(test + ": " + asked + " answers, " + wrong + " wrong");
        if (wrong != 0 || asked == 0) {
            System.exit(1);
        }
    }
}
