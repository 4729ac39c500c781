/** What the tests share: it counts checks, prints each one that fails with its line, and ends with exit code 1 then. */
final class Check {
    interface Deed {
        void go();
    }

    private int checks;
    private int wrong;

    void is(long want, long got) {
        checks++;
        if (want != got) {
            report("answered " + got + ", due is " + want);
        }
    }

    void same(String want, String got) {
        checks++;
        if (!want.equals(got)) {
            report("is\n" + got + "\ndue is\n" + want);
        }
    }

    void index(RecordsOffice x, Deed deed) {
        refuses(IndexOutOfBoundsException.class, x, deed);
    }

    void argument(RecordsOffice x, Deed deed) {
        refuses(IllegalArgumentException.class, x, deed);
    }

    void state(RecordsOffice x, Deed deed) {
        refuses(IllegalStateException.class, x, deed);
    }

    /** The deed throws just this exception, and all that can be asked of the office is as before. */
    private void refuses(Class<?> want, RecordsOffice x, Deed deed) {
        checks++;
        String before = Look.at(x);
        Class<?> got = null;
        try {
            deed.go();
        } catch (RuntimeException e) {
            got = e.getClass();
        }
        if (got != want) {
            report("threw " + got + ", due is " + want);
        }
        String after = Look.at(x);
        if (!before.equals(after)) {
            report("the office was\n" + before + "\nand is\n" + after);
        }
    }

    void report(String text) {
        wrong++;
        StackTraceElement[] trace = new Throwable().getStackTrace();
        StackTraceElement line = trace[trace.length - 1];
        for (int i = trace.length - 1; i >= 0; i--) {
            String name = trace[i].getClassName();
            if (name.endsWith("Test") && !trace[i].getMethodName().equals("main")) {
                line = trace[i];
            }
        }
        System.out.println(line + ": " + text);
    }

    void end() {
        System.out.println(checks + " checks, " + wrong + " wrong");
        if (wrong != 0) {
            System.exit(1);
        }
    }
}
