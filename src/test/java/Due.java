/** Counts and prints the answers that are not as due. */
final class Due {
    private static int wrong = 0;
    private static int asked = 0;

    private Due() {
    }

    static void is(String where, long got, long want) {
        asked++;
        if (got != want) {
            wrong++;
            System.out.println(where + " answered " + got + ", due is " + want);
        }
    }

    static void holds(String where, boolean holds) {
        is(where, holds ? 1 : 0, 1);
    }

    static void end() {
        System.out.println(asked + " answers asked, " + wrong + " not as due");
        if (wrong != 0) {
            System.exit(1);
        }
    }
}
