/**
 * All that an office answers, and what calls would still do to it, as one text. Each part is asked of an office newly
 * made, since nothing is promised of one after its 512th call: a recipe of some 400 calls leaves room for a hundred.
 */
final class Probe {
    private static final int RECORDS_AT_ONCE = 10;
    private static final int ACTS_AT_ONCE = 16;
    private static final int LISTS_AT_ONCE = 6;

    interface Asked {
        long of(RecordsOffice x);
    }

    private final StringBuilder text = new StringBuilder();
    private final Recipe recipe;
    private RecordsOffice x;

    private Probe(Recipe recipe) {
        this.recipe = recipe;
    }

    static String of(Recipe recipe) {
        Probe probe = new Probe(recipe);
        probe.askCounts();
        probe.askRecords();
        probe.askLists();
        probe.askActs();
        probe.tryOfficers();
        probe.tryLists();
        probe.tryHolds();
        probe.tryClasses();
        probe.tryFolders();
        probe.tryFiling();
        return probe.text.toString();
    }

    /** The answer of a call, or what it throws. */
    static String outcome(RecordsOffice x, Asked call) {
        try {
            return "" + call.of(x);
        } catch (RuntimeException e) {
            return e.getClass().getSimpleName();
        }
    }

    private void part(String name) {
        x = recipe.make();
        text.append('\n').append(name);
    }

    private void ask(Asked call) {
        text.append(' ').append(outcome(x, call));
    }

    private void act(Recipe.Deed deed) {
        ask(y -> {
            deed.on(y);
            return 0;
        });
    }

    private void askCounts() {
        part("counts");
        for (int what = 0; what < 5; what++) {
            int each = what;
            ask(y -> y.count(each));
        }
        ask(y -> y.broken());
    }

    private void askRecords() {
        int records = recipe.make().count(0);
        for (int record = 0; record <= records; record++) {
            if (record % RECORDS_AT_ONCE == 0) {
                part("records from " + record);
            }
            int each = record;
            for (int what = 0; what < 5; what++) {
                int number = what;
                ask(y -> y.record(each, number));
            }
            ask(y -> y.due(each));
            ask(y -> y.covered(each));
            ask(y -> y.read(each));
        }
    }

    private void askLists() {
        int lists = recipe.make().count(1);
        for (int list = 0; list <= lists; list++) {
            int each = list;
            part("list " + list);
            for (int i = 0; i <= 64; i++) {
                int place = i;
                ask(y -> y.listed(each, place));
            }
        }
    }

    private void askActs() {
        int acts = recipe.make().count(2);
        for (int i = 0; i <= acts; i++) {
            if (i % ACTS_AT_ONCE == 0) {
                part("acts from " + i);
            }
            int each = i;
            for (int what = 0; what < 4; what++) {
                int number = what;
                ask(y -> y.act(each, number));
            }
            ask(y -> y.link(each));
        }
    }

    private void tryOfficers() {
        part("draw");
        for (int officer = 0; officer < 8; officer++) {
            int each = officer;
            ask(y -> y.draw(each, 120000));
        }
    }

    private void tryLists() {
        int lists = recipe.make().count(1);
        for (int from = 0; from < lists; from += LISTS_AT_ONCE) {
            tryLists(from, Math.min(lists, from + LISTS_AT_ONCE));
        }
    }

    private void tryLists(int from, int to) {
        part("approve from " + from);
        for (int i = 8 * from; i < 8 * to; i++) {
            int each = i;
            ask(y -> y.approve(each / 8, each % 8));
        }
        part("strike from " + from);
        for (int i = from; i < to; i++) {
            int each = i;
            ask(y -> y.strike(each, y.listed(each, 0)));
        }
        part("carry from " + from);
        for (int i = 8 * from; i < 8 * to; i++) {
            int each = i;
            ask(y -> y.carry(each / 8, each % 8, 120000));
        }
    }

    private void tryHolds() {
        part("hold");
        for (int i = 0; i < 8; i++) {
            int each = i;
            act(y -> y.hold(each, -1, -1, -1, 0, 120000));
        }
        part("lift");
        for (int i = 0; i < 8; i++) {
            int each = i;
            act(y -> y.lift(each));
        }
    }

    private void tryClasses() {
        part("version");
        for (int i = 0; i < 32; i++) {
            int each = i;
            ask(y -> y.version(each / 4, each % 4, 0, 0, false, 120000));
        }
    }

    private void tryFolders() {
        part("open, close, left");
        for (int i = 0; i < 16; i++) {
            int each = i;
            act(y -> y.left(each, 120000));
            act(y -> y.close(each, 120000));
            act(y -> y.open(each, 0));
        }
    }

    /** Files in each folder: which of them are closed, and by which class and fiscal year a record there is due. */
    private void tryFiling() {
        part("file");
        for (int i = 0; i < 16; i++) {
            int each = i;
            ask(y -> y.file(each, 1, 1, -1, -1, -1, y.count(3)));
            ask(y -> y.due(y.count(0) - 1));
        }
    }
}
