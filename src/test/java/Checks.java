/** Counts the answers that are not as due, and tells them. */
final class Checks {
    private static int made = 0;
    private static int wrong = 0;

    private Checks() {
    }

    static void due(String what, double got, double want) {
        made++;
        if (got != want) {
            tell(what, String.valueOf(got), String.valueOf(want));
        }
    }

    static void due(String what, long got, long want) {
        made++;
        if (got != want) {
            tell(what, String.valueOf(got), String.valueOf(want));
        }
    }

    static void holds(String what, boolean true_) {
        made++;
        if (!true_) {
            tell(what, "false", "true");
        }
    }

    private static void tell(String what, String got, String want) {
        wrong++;
        if (wrong <= 50) {
            System.out.println(what + " answered " + got + ", due is " + want);
        }
    }

    static void end() {
        System.out.println(made + " checks, " + wrong + " wrong");
        if (wrong != 0 || made == 0) {
            System.exit(1);
        }
    }
}
