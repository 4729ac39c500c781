/** The boundary cases of promises 9 (hold), 10 (lift) and 11 (covered). */
public final class HoldsEdgesTest {
    private static final Edges edges = new Edges();
    private static final Recipe NEW = RecordsOffice::new;
    /** Records 0 to 4 filed on days 0 to 4; no hold is placed. */
    private static final Recipe FILED = () -> Offices.withRecords(5);
    private static final Recipe PLACED = FILED.then(x -> x.hold(0, -1, -1, -1, 2, 2));
    private static final Recipe LIFTED = PLACED.then(x -> x.lift(0));
    private static final Recipe ALL_PLACED = FILED.then(x -> {
        for (int hold = 0; hold < 8; hold++) {
            x.hold(hold, -1, -1, -1, 0, 120000);
        }
    });

    public static void main(String[] args) {
        edges.promise("Promise 9: hold");
        edges.sentence("A hold is PLACED: folder, class, key are NONE for all", HoldsEdgesTest::noneForAll);
        edges.sentence("records FILED from one day to another one", HoldsEdgesTest::daysOfHolds);
        edges.sentence("no such hold", HoldsEdgesTest::noSuchHold);
        edges.sentence("folder (0 .. 15)", HoldsEdgesTest::noSuchFolder);
        edges.sentence("class", HoldsEdgesTest::noSuchClass);
        edges.sentence("key is not NONE .. 99", HoldsEdgesTest::noSuchKey);
        edges.sentence("a day not 0 .. 120000", HoldsEdgesTest::noSuchDay);
        edges.sentence("or the last one before the first one", HoldsEdgesTest::lastBeforeFirst);
        edges.sentence("IllegalStateException: it is placed.", HoldsEdgesTest::isPlaced);
        edges.sentence("of several exceptions the one named first is thrown", HoldsEdgesTest::holdInOrder);

        edges.promise("Promise 10: lift");
        edges.sentence("A hold is lifted.", HoldsEdgesTest::lifts);
        edges.sentence("IndexOutOfBoundsException", HoldsEdgesTest::liftsNoSuchHold);
        edges.sentence("IllegalStateException: it is not placed.", HoldsEdgesTest::isNotPlaced);
        edges.sentence("of several exceptions the one named first is thrown", HoldsEdgesTest::liftInOrder);

        edges.promise("Promise 11: covered");
        edges.sentence("How many holds COVER a record.", HoldsEdgesTest::howMany);
        edges.sentence("IndexOutOfBoundsException.", HoldsEdgesTest::coversNoSuchRecord);
        edges.end();
    }

    private static void coveredAre(String want, Recipe recipe) {
        RecordsOffice x = recipe.make();
        StringBuilder got = new StringBuilder();
        for (int i = 0; i < x.count(0); i++) {
            got.append(x.covered(i));
        }
        edges.same(want, got.toString());
    }

    private static void lastActIs(String want, Recipe recipe) {
        edges.same(want, Offices.lastAct(recipe.make()));
    }

    private static void noneForAll() {
        coveredAre("11111", FILED.then(x -> x.hold(0, -1, -1, -1, 0, 120000)));
        coveredAre("11111", FILED.then(x -> x.hold(0, 0, 0, -1, 0, 120000)));
        coveredAre("00000", FILED.then(x -> x.hold(0, 1, -1, -1, 0, 120000)));
        coveredAre("00000", FILED.then(x -> x.hold(0, -1, 1, -1, 0, 120000)));
        coveredAre("10000", FILED.then(x -> x.hold(0, -1, -1, 0, 0, 120000)));
        coveredAre("00000", FILED.then(x -> x.hold(0, -1, -1, 99, 0, 120000)));
        // The act has the folder and the class one higher, so that none is 0.
        lastActIs("6 0 0 0", NEW.then(x -> x.hold(0, -1, -1, -1, 0, 0)));
        lastActIs("6 7 16 8", NEW.then(x -> x.hold(7, 15, 7, 99, 120000, 120000)));
        lastActIs("6 3 1 0", NEW.then(x -> x.hold(3, 0, -1, 0, 0, 0)));
        lastActIs("6 3 0 1", NEW.then(x -> x.hold(3, -1, 0, 0, 0, 0)));
    }

    private static void daysOfHolds() {
        coveredAre("00100", PLACED);
        coveredAre("01110", FILED.then(x -> x.hold(0, -1, -1, -1, 1, 3)));
        coveredAre("11111", FILED.then(x -> x.hold(0, -1, -1, -1, 0, 4)));
        coveredAre("01111", FILED.then(x -> x.hold(0, -1, -1, -1, 1, 4)));
        coveredAre("11110", FILED.then(x -> x.hold(0, -1, -1, -1, 0, 3)));
        coveredAre("10000", FILED.then(x -> x.hold(0, -1, -1, -1, 0, 0)));
        coveredAre("00000", FILED.then(x -> x.hold(0, -1, -1, -1, 5, 120000)));
        // Its days are no act's: they may be before that of the office, and leave it as it is.
        edges.gives(4, PLACED, x -> x.count(3));
        edges.gives(4, FILED.then(x -> x.hold(0, -1, -1, -1, 9, 9)), x -> x.count(3));
    }

    private static void noSuchHold() {
        edges.indexOutside(0, 7, FILED, (x, hold) -> x.hold(hold, -1, -1, -1, 0, 0));
    }

    private static void noSuchFolder() {
        edges.indexOutside(-1, 15, FILED, (x, folder) -> x.hold(0, folder, -1, -1, 0, 0));
        // Whether the folder is there does not matter.
        edges.indexOutside(-1, 15, NEW, (x, folder) -> x.hold(0, folder, -1, -1, 0, 0));
    }

    private static void noSuchClass() {
        edges.indexOutside(-1, 7, FILED, (x, cls) -> x.hold(0, -1, cls, -1, 0, 0));
        edges.indexOutside(-1, 7, NEW, (x, cls) -> x.hold(0, -1, cls, -1, 0, 0));
    }

    private static void noSuchKey() {
        edges.argumentOutside(-1, 99, FILED, (x, key) -> x.hold(0, -1, -1, key, 0, 0));
    }

    private static void noSuchDay() {
        edges.argumentOutside(0, 120000, FILED, (x, first) -> x.hold(0, -1, -1, -1, first, 120000));
        edges.argumentOutside(0, 120000, FILED, (x, last) -> x.hold(0, -1, -1, -1, 0, last));
        edges.argument(FILED, x -> x.hold(0, -1, -1, -1, -1, -1));
        edges.argument(FILED, x -> x.hold(0, -1, -1, -1, 120001, 120001));
    }

    private static void lastBeforeFirst() {
        edges.argumentOutside(50, 120000, FILED, (x, last) -> x.hold(0, -1, -1, -1, 50, last));
        edges.argumentOutside(0, 50, FILED, (x, first) -> x.hold(0, -1, -1, -1, first, 50));
        edges.argument(FILED, x -> x.hold(0, -1, -1, -1, 120000, 0));
    }

    private static void isPlaced() {
        edges.state(PLACED, x -> x.hold(0, -1, -1, -1, 2, 2));
        edges.state(PLACED, x -> x.hold(0, 0, 0, 0, 0, 120000));
        edges.takes(PLACED, x -> x.hold(1, -1, -1, -1, 2, 2));
        coveredAre("10000", LIFTED.then(x -> x.hold(0, -1, -1, -1, 0, 0)));
        for (int hold = 0; hold < 8; hold++) {
            int each = hold;
            edges.state(ALL_PLACED, x -> x.hold(each, -1, -1, -1, 0, 0));
        }
    }

    private static void holdInOrder() {
        new Refusals(edges, (x, n) -> x.hold(n[0], n[1], n[2], n[3], n[4], n[5]), 0, -1, -1, -1, 5, 5)
                .index(0, -1, 8)
                .index(1, -2, 16)
                .index(2, -2, 8)
                .argument(3, -2, 100)
                .argument(4, -1, 6, 120001)
                .argument(5, -1, 4, 120001)
                .takenIn(NEW, FILED, LIFTED, FILED.withActs(399))
                .stateIn(PLACED, ALL_PLACED, FILED.withActs(400), PLACED.withActs(400))
                .check();
    }

    private static void lifts() {
        coveredAre("00000", LIFTED);
        lastActIs("7 0 0 0", LIFTED);
        lastActIs("7 7 0 0", ALL_PLACED.then(x -> x.lift(7)));
        coveredAre("77777", ALL_PLACED.then(x -> x.lift(7)));
        edges.gives(4, LIFTED, x -> x.count(3));
        // It covers no more what comes later.
        coveredAre("000000", FILED.then(x -> x.hold(0, -1, -1, -1, 5, 9)).then(x -> x.lift(0)).then(x -> Offices.fileOn(x, 0, 5)));
    }

    private static void liftsNoSuchHold() {
        edges.indexOutside(0, 7, ALL_PLACED, (x, hold) -> x.lift(hold));
    }

    private static void isNotPlaced() {
        for (int hold = 0; hold < 8; hold++) {
            int each = hold;
            edges.state(NEW, x -> x.lift(each));
            edges.state(ALL_PLACED.then(x -> x.lift(each)), x -> x.lift(each));
        }
        edges.state(PLACED, x -> x.lift(1));
        edges.state(LIFTED, x -> x.lift(0));
        edges.takes(LIFTED.then(x -> x.hold(0, -1, -1, -1, 0, 0)), x -> x.lift(0));
    }

    private static void liftInOrder() {
        new Refusals(edges, (x, n) -> x.lift(n[0]), 0)
                .index(0, -1, 8, Integer.MIN_VALUE, Integer.MAX_VALUE)
                .takenIn(PLACED, ALL_PLACED, PLACED.withActs(399))
                .stateIn(NEW, LIFTED, PLACED.withActs(400), FILED.withActs(400))
                .check();
    }

    private static void howMany() {
        coveredAre("00000", FILED);
        Recipe recipe = FILED;
        for (int hold = 0; hold < 8; hold++) {
            int each = hold;
            recipe = recipe.then(x -> x.hold(each, -1, -1, -1, 0, 120000));
            edges.gives(hold + 1, recipe, x -> x.covered(4));
        }
        // A destroyed one is covered too.
        Recipe listed = () -> Offices.withApprovedList(2);
        Recipe carried = listed.then(x -> x.carry(0, 4, 100));
        coveredAre("00", carried);
        coveredAre("01", carried.then(x -> x.hold(0, -1, -1, -1, 1, 1)));
        edges.gives(1, carried.then(x -> x.hold(0, -1, -1, -1, 1, 1)), x -> x.record(1, 3));
    }

    private static void coversNoSuchRecord() {
        edges.indexOutside(0, 4, PLACED, (x, record) -> x.covered(record));
        Recipe all = () -> Offices.withRecords(64);
        edges.indexOutside(0, 63, all, (x, record) -> x.covered(record));
        edges.index(NEW, x -> x.covered(0));
    }
}
