/** What the tests of the project share: each prints what is not as due and ends with exit code 1 then. */
final class Checks {
    private final String test;
    private int made;
    private int wrong;
    private String about = "";

    Checks(String test) {
        this.test = test;
    }

    /** A call that may be refused. */
    interface Call {
        void make();
    }

    /** What the checks from now on are about, told with each that fails. */
    void about(String words) {
        about = words;
    }

    void same(String what, long got, long due) {
        made++;
        if (got != due) {
            tell(what + " answered " + got + ", due is " + due);
        }
    }

    void holds(String what, boolean got) {
        made++;
        if (!got) {
            tell(what + " does not hold");
        }
    }

    /**
     * The exception's very class counts: one below it would not be what the document names. A division's own
     * exception would be of the due class too, but the program must throw it before it divides.
     */
    void refused(String what, Class<? extends RuntimeException> due, Call call) {
        made++;
        Class<?> got = null;
        try {
            call.make();
        } catch (RuntimeException e) {
            got = e.getClass();
            if ("/ by zero".equals(e.getMessage())) {
                tell(what + " divided by 0");
            }
        }
        if (got != due) {
            tell(what + " threw " + (got == null ? "nothing" : got.getSimpleName()) + ", due is " + due.getSimpleName());
        }
    }

    void end() {
        System.out.println(test + ": " + made + " checks, " + wrong + " wrong");
        if (wrong != 0) {
            System.exit(1);
        }
    }

    private void tell(String fault) {
        wrong++;
        System.out.println(test + ": " + fault + (about.isEmpty() ? "" : " [" + about + "]"));
    }
}
