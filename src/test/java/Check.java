/** Compares answers with those that are due and ends a test with exit code 1 if one was wrong. */
final class Check {
    private static int wrong = 0;
    private static int done = 0;

    private Check() {
    }

    static void same(String what, long got, long due) {
        done++;
        if (got != due) {
            wrong++;
            System.out.println(what + " answered " + got + ", due is " + due);
        }
    }

    static void yes(String what, boolean got) {
        same(what, got ? 1 : 0, 1);
    }

    static void no(String what, boolean got) {
        same(what, got ? 1 : 0, 0);
    }

    static boolean anyWrong() {
        return wrong != 0;
    }

    static void end() {
        System.out.println(wrong == 0 ? "all " + done + " answers are as due" : wrong + " answers are not as due");
        if (wrong != 0) {
            System.exit(1);
        }
    }
}
