import java.util.Arrays;

/**
 * Tests of boundary cases. Each is told with the promise and the sentence of the document that it holds the office to.
 * A refused call is made on an office of its recipe, and whatever is asked then is answered as by one without it.
 */
final class Edges {
    interface Numbered {
        void on(RecordsOffice x, int number);
    }

    private final Check check = new Check();
    private String promise = "";
    private int sentences;
    private Recipe probed;
    private String probe;

    void promise(String name) {
        promise = name;
    }

    void sentence(String words, Runnable test) {
        sentences++;
        check.about(promise + ", \"" + words + "\"");
        int before = check.made();
        try {
            test.run();
        } catch (RuntimeException e) {
            check.report("threw " + e + " at " + Arrays.toString(e.getStackTrace()));
        }
        if (check.made() == before) {
            check.report("nothing was checked");
        }
    }

    void end() {
        System.out.print(sentences + " sentences, ");
        check.end();
    }

    void is(long want, long got) {
        check.is(want, got);
    }

    void same(String want, String got) {
        check.same(want, got);
    }

    void gives(long want, Recipe recipe, Probe.Asked call) {
        check.same("" + want, Probe.outcome(recipe.make(), call));
    }

    void takes(Recipe recipe, Recipe.Deed deed) {
        check.same("taken", outcome(recipe, deed));
    }

    void index(Recipe recipe, Recipe.Deed deed) {
        refuses("IndexOutOfBoundsException", recipe, deed);
    }

    void argument(Recipe recipe, Recipe.Deed deed) {
        refuses("IllegalArgumentException", recipe, deed);
    }

    void state(Recipe recipe, Recipe.Deed deed) {
        refuses("IllegalStateException", recipe, deed);
    }

    /** The numbers from low to high are taken at both ends; those next to them and the farthest are refused. */
    void indexOutside(int low, int high, Recipe recipe, Numbered call) {
        outside("IndexOutOfBoundsException", low, high, recipe, call);
    }

    void argumentOutside(int low, int high, Recipe recipe, Numbered call) {
        outside("IllegalArgumentException", low, high, recipe, call);
    }

    private void outside(String exception, int low, int high, Recipe recipe, Numbered call) {
        takes(recipe, x -> call.on(x, low));
        takes(recipe, x -> call.on(x, high));
        for (int number : new int[] {low - 1, high + 1, Integer.MIN_VALUE, Integer.MAX_VALUE}) {
            refuses(exception, recipe, x -> call.on(x, number));
        }
    }

    void refuses(String exception, Recipe recipe, Recipe.Deed deed) {
        check.same(exception, outcome(recipe, deed));
        check.same(probeOf(recipe), Probe.of(recipe.then(x -> attempt(x, deed))));
    }

    private String probeOf(Recipe recipe) {
        if (probed != recipe) {
            probed = recipe;
            probe = Probe.of(recipe);
        }
        return probe;
    }

    private static void attempt(RecordsOffice x, Recipe.Deed deed) {
        try {
            deed.on(x);
        } catch (RuntimeException e) {
            // Which exception it is has been looked at.
        }
    }

    private static String outcome(Recipe recipe, Recipe.Deed deed) {
        RecordsOffice x = recipe.make();
        try {
            deed.on(x);
            return "taken";
        } catch (RuntimeException e) {
            return e.getClass().getSimpleName();
        }
    }
}
