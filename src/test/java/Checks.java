/** Counts the answers of one test program and ends it with exit code 1 when one is not as due. */
final class Checks {
    interface Call {
        void make();
    }

    private static int made = 0;
    private static int wrong = 0;

    private Checks() {
    }

    static void due(String what, long want, long got) {
        made++;
        if (want != got) {
            wrong++;
            System.out.println(what + ": answered " + got + ", due is " + want);
        }
    }

    static void dueBytes(String what, int[] want, int[] got) {
        made++;
        if (!java.util.Arrays.equals(want, got)) {
            wrong++;
            System.out.println(what + ": answered " + java.util.Arrays.toString(got)
                    + ", due is " + java.util.Arrays.toString(want));
        }
    }

    /** Tells the first line that is another one. */
    static void dueLines(String what, java.util.List<String> want, java.util.List<String> got) {
        made++;
        int k = 0;
        while (k < want.size() && k < got.size() && want.get(k).equals(got.get(k))) {
            k++;
        }
        if (k < want.size() || k < got.size()) {
            wrong++;
            System.out.println(what + ": line " + k + " is \"" + (k < got.size() ? got.get(k) : "")
                    + "\", due is \"" + (k < want.size() ? want.get(k) : "") + "\"");
        }
    }

    static void dueTrue(String what, boolean holds) {
        due(what, 1, holds ? 1 : 0);
    }

    /** The exception must be of this very class: a subclass comes from the machine, not from a throw. */
    static void dueThrows(String what, Class<? extends RuntimeException> want, Call call) {
        made++;
        String got = "nothing";
        try {
            call.make();
        } catch (RuntimeException e) {
            got = e.getClass().getName();
        }
        if (!got.equals(want.getName())) {
            wrong++;
            System.out.println(what + ": threw " + got + ", due is " + want.getName());
        }
    }

    static void dueIllegalArgument(String what, Call call) {
        dueThrows(what, IllegalArgumentException.class, call);
    }

    static void dueIllegalState(String what, Call call) {
        dueThrows(what, IllegalStateException.class, call);
    }

    static void dueNoSuchElement(String what, Call call) {
        dueThrows(what, java.util.NoSuchElementException.class, call);
    }

    static void dueOutOfBounds(String what, Call call) {
        dueThrows(what, IndexOutOfBoundsException.class, call);
    }

    static void end() {
        if (made == 0) {
            System.out.println("nothing was checked");
            System.exit(1);
        }
        if (wrong != 0) {
            System.out.println(wrong + " of " + made + " checks are not as due");
            System.exit(1);
        }
    }
}
