/** What the tests share: every answer that is not the one due is printed, and ends the test with exit code 1. */
final class Check {
    interface Call {
        void make();
    }

    private static int checks = 0;
    private static int wrong = 0;

    private Check() {
    }

    static void same(String what, long got, long due) {
        checks++;
        if (got != due) {
            wrong++;
            System.out.println(what + " answered " + got + ", due is " + due);
        }
    }

    static void same(String what, String got, String due) {
        checks++;
        if (!got.equals(due)) {
            wrong++;
            System.out.println(what + " answered " + got + ", due is " + due);
        }
    }

    static void noSuchPlace(String what, Call call) {
        same(what, thrownBy(call), "IndexOutOfBoundsException");
    }

    static void wrongNumber(String what, Call call) {
        same(what, thrownBy(call), "IllegalArgumentException");
    }

    static void wrongState(String what, Call call) {
        same(what, thrownBy(call), "IllegalStateException");
    }

    /** By the exact name: what the machine throws is often a class below the one that is due. */
    static String thrownBy(Call call) {
        try {
            call.make();
            return "nothing thrown";
        } catch (RuntimeException e) {
            return e.getClass().getSimpleName();
        }
    }

    static boolean allRight() {
        return wrong == 0;
    }

    static void end() {
        System.out.println(checks + " checks, " + wrong + " wrong");
        if (wrong != 0) {
            System.exit(1);
        }
    }
}
