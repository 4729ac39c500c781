/** What the tests share: it counts checks, prints each one that fails with its line, and ends with exit code 1 then. */
final class Check {
    interface Deed {
        void go();
    }

    private int checks;
    private int wrong;
    private String label = "";

    /** What the checks from now on are about, told with each that fails. */
    void about(String text) {
        label = text;
    }

    int made() {
        return checks;
    }

    void is(long want, long got) {
        checks++;
        if (want != got) {
            report("answered " + got + ", due is " + want);
        }
    }

    void same(String want, String got) {
        checks++;
        if (!want.equals(got)) {
            report("is\n" + got + "\ndue is\n" + want);
        }
    }

    void index(Deed deed) {
        refuses(IndexOutOfBoundsException.class, deed);
    }

    void argument(Deed deed) {
        refuses(IllegalArgumentException.class, deed);
    }

    void state(Deed deed) {
        refuses(IllegalStateException.class, deed);
    }

    /** The deed throws just this exception. That it changes nothing is looked at by the tests of edges. */
    private void refuses(Class<?> want, Deed deed) {
        checks++;
        Class<?> got = null;
        try {
            deed.go();
        } catch (RuntimeException e) {
            got = e.getClass();
        }
        if (got != want) {
            report("threw " + got + ", due is " + want);
        }
    }

    void report(String text) {
        wrong++;
        StackTraceElement[] trace = new Throwable().getStackTrace();
        StackTraceElement line = trace[trace.length - 1];
        for (int i = trace.length - 1; i >= 0; i--) {
            String name = trace[i].getClassName();
            if (name.endsWith("Test") && !trace[i].getMethodName().equals("main")) {
                line = trace[i];
            }
        }
        System.out.println(line + ": " + label + (label.isEmpty() ? "" : ": ") + text);
    }

    void end() {
        System.out.println(checks + " checks, " + wrong + " wrong");
        if (wrong != 0) {
            System.exit(1);
        }
    }
}
