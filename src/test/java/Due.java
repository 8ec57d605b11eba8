/** Counts the answers that are not the ones that are due. */
final class Due {
    static final long BAD = -9000000000000000001L, NO = -9000000000000000002L, FULL = -9000000000000000003L,
            NOTHING = -9000000000000000011L, INDEX = -9000000000000000013L, NONE = -9000000000000000005L;

    private static int wrong = 0;
    private static int asked = 0;

    private Due() {
    }

    static void due(String call, long got, long want) {
        asked++;
        if (got != want) {
            wrong++;
            System.out.println(call + " answered " + got + ", due is " + want);
        }
    }

    static void isTrue(String what, boolean holds) {
        due(what, holds ? 1 : 0, 1);
    }

    /** Ends the test with exit code 1 if an answer was wrong. */
    static void finish() {
        System.out.println(asked + " answers, " + wrong + " not as due");
        if (wrong != 0) {
            System.exit(1);
        }
    }
}
