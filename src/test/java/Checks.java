/** Counts answers that are not the ones that are due. */
final class Checks {
    interface Call { long make(); }

    static int wrong = 0;
    private static int made = 0;

    static void due(String what, long got, long want) {
        made++;
        if (got != want) {
            wrong++;
            System.out.println(what + " answered " + got + ", due is " + want);
        }
    }

    static void due(String what, boolean got, boolean want) { due(what, got ? 1L : 0L, want ? 1L : 0L); }

    static void outside(String what, Call call) { fails(what, call, "IndexOutOfBoundsException"); }
    static void illegal(String what, Call call) { fails(what, call, "IllegalArgumentException"); }
    static void full(String what, Call call) { fails(what, call, "IllegalStateException"); }

    /** The very exception of the document: a kind below it, as the machine throws, is not one. */
    private static void fails(String what, Call call, String kind) {
        made++;
        String got = "nothing";
        try {
            call.make();
        } catch (RuntimeException e) {
            got = e.getClass().getSimpleName();
        }
        if (!got.equals(kind)) {
            wrong++;
            System.out.println(what + " throws " + got + ", due is " + kind);
        }
    }

    static void end(String name) {
        System.out.println(name + ": " + made + " answers, " + wrong + " not as due");
        if (wrong != 0) System.exit(1);
    }
}
