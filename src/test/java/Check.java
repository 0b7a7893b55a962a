/** Counts the answers that are not as due, and ends a test by that count. */
final class Check {
    private static final int MOST_PRINTED = 40;

    private static int asked = 0;
    private static int wrong = 0;

    private Check() {
    }

    static void due(String call, long got, long want) {
        asked++;
        if (got != want) {
            wrong++;
            if (wrong <= MOST_PRINTED) {
                System.out.println(call + " answered " + got + ", due is " + want);
            }
        }
    }

    static void due(String what, boolean holds) {
        due(what, holds ? 1 : 0, 1);
    }

    static int wrongSoFar() {
        return wrong;
    }

    static void finish(String test) {
        System.out.println(test + ": " + asked + " answers, " + wrong + " not as due");
        if (wrong != 0 || asked == 0) {
            System.exit(1);
        }
    }
}
