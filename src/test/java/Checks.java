/** Counts the answers that are not as due, and tells them. */
final class Checks {
    private static int made = 0;
    private static int wrong = 0;
    private static int sentences = 0;
    private static String sentence = "";

    private Checks() {
    }

    /** The checks that follow are of this sentence of the document. */
    static void sentence(String where, String words) {
        sentences++;
        sentence = where + " \"" + words + "\": ";
        holds("the document says so", Document.says(where, words));
    }

    static void due(String what, double got, double want) {
        made++;
        if (got != want) {
            tell(what, String.valueOf(got), String.valueOf(want));
        }
    }

    static void due(String what, long got, long want) {
        made++;
        if (got != want) {
            tell(what, String.valueOf(got), String.valueOf(want));
        }
    }

    static void holds(String what, boolean true_) {
        made++;
        if (!true_) {
            tell(what, "false", "true");
        }
    }

    private static void tell(String what, String got, String want) {
        wrong++;
        if (wrong <= 50) {
            System.out.println(sentence + what + " answered " + got + ", due is " + want);
        }
    }

    static void end() {
        String of = sentences > 0 ? " of " + sentences + " sentences" : "";
        System.out.println(made + " checks" + of + ", " + wrong + " wrong");
        if (wrong != 0 || made == 0) {
            System.exit(1);
        }
    }
}
