/** What a test looked at, and how much of it was wrong. */
final class Checks {
    private static int looked = 0;
    private static int wrong = 0;

    private Checks() {
    }

    static void due(String what, long want, long got) {
        looked++;
        if (want != got) {
            wrong++;
            System.out.println(what + ": answered " + got + ", due is " + want);
        }
    }

    static void same(String what, String want, String got) {
        looked++;
        if (!want.equals(got)) {
            wrong++;
            System.out.println(what + ": is\n" + got + "\n, due is\n" + want);
        }
    }

    /** Ends the test, with exit code 1 if something was wrong. */
    static void end() {
        System.out.println(looked + " answers, " + wrong + " not as due");
        if (wrong != 0 || looked == 0) {
            System.exit(1);
        }
    }
}
