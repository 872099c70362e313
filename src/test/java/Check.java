/** Counts the answers that are not the ones that are due, and prints each of them. */
final class Check {
    private static int made = 0;
    private static int wrong = 0;
    private static int sentences = 0;

    private Check() {
    }

    static void due(String what, long got, long want) {
        made++;
        if (got != want) {
            wrong++;
            System.out.println(what + " answered " + octal(got) + ", due is " + octal(want));
        }
    }

    static void due(String what, boolean got, boolean want) {
        made++;
        if (got != want) {
            wrong++;
            System.out.println(what + " answered " + got + ", due is " + want);
        }
    }

    /** A test of its own for one sentence of the document. */
    static void sentence(String quoted, Runnable test) {
        int madeBefore = made;
        int wrongBefore = wrong;
        test.run();
        sentences++;
        due("the answers looked at for '" + quoted + "' are none, which", made == madeBefore, false);
        if (wrong != wrongBefore) {
            System.out.println("NOT HELD: " + quoted);
        }
    }

    private static String octal(long n) {
        return n + " (" + (n < 0 ? "-0" + Long.toOctalString(-n) : "0" + Long.toOctalString(n)) + ")";
    }

    static void finish() {
        if (sentences != 0) {
            System.out.println(sentences + " sentences");
        }
        System.out.println(wrong == 0 ? made + " answers, all as due" : wrong + " of " + made + " answers are not as due");
        if (wrong != 0) {
            System.exit(1);
        }
    }
}
