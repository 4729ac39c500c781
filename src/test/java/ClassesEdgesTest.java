/** The boundary cases of promises 1 (a new object), 2 (officer), 3 (version) and 4 (fiscal). */
public final class ClassesEdgesTest {
    private static final Edges edges = new Edges();
    private static final Recipe NEW = RecordsOffice::new;
    private static final Recipe LISTED = () -> Offices.withApprovedList(3);
    /** Class 0 has a version, with event 2, from day 100 on. */
    private static final Recipe VERSION = NEW.then(x -> x.version(0, 2, 5, 5, false, 100));
    private static final Recipe SIX_VERSIONS = VERSION.then(x -> {
        for (int i = 0; i < 5; i++) {
            x.version(0, 2, 5, 5, false, 100);
        }
    });

    public static void main(String[] args) {
        edges.promise("Promise 1: A new object");
        edges.sentence("Nothing is there", ClassesEdgesTest::nothingIsThere);
        edges.sentence("Nothing is there", ClassesEdgesTest::newObjectsShareNothing);
        edges.sentence("no officer has rights", ClassesEdgesTest::noRights);
        edges.sentence("fiscal years begin with January", ClassesEdgesTest::january);

        edges.promise("Promise 2: officer");
        edges.sentence("Rights of an officer from now on.", ClassesEdgesTest::rightsFromNowOn);
        edges.sentence("IndexOutOfBoundsException", ClassesEdgesTest::noSuchOfficer);
        edges.sentence("IllegalArgumentException: rights are not 0 .. 7.", ClassesEdgesTest::noSuchRights);
        edges.sentence("of several exceptions the one named first is thrown", ClassesEdgesTest::officerInOrder);

        edges.promise("Promise 3: version");
        edges.sentence("A version more of a class: how many it has.", ClassesEdgesTest::howManyVersions);
        edges.sentence("IndexOutOfBoundsException", ClassesEdgesTest::noSuchClass);
        edges.sentence("event is not 0 .. 3", ClassesEdgesTest::noSuchEvent);
        edges.sentence("or (for a class that has a version) another one", ClassesEdgesTest::anotherEvent);
        edges.sentence("the term is none", ClassesEdgesTest::noTerm);
        edges.sentence("the day is before that of the class's latest version", ClassesEdgesTest::beforeTheLatest);
        edges.sentence("or not 0 .. 120000", ClassesEdgesTest::noDay);
        edges.sentence("IllegalStateException", ClassesEdgesTest::noRoomForAVersion);
        edges.sentence("(Its first day is not that of an act.)", ClassesEdgesTest::firstDayIsNoActs);
        edges.sentence("of several exceptions the one named first is thrown", ClassesEdgesTest::versionInOrder);

        edges.promise("Promise 4: fiscal");
        edges.sentence("The month (1 .. 12) with which fiscal years begin.", ClassesEdgesTest::months);
        edges.sentence("The month (1 .. 12) with which fiscal years begin.", ClassesEdgesTest::theLastMonthTold);
        edges.sentence("IllegalStateException: a record was filed.", ClassesEdgesTest::recordWasFiled);
        edges.sentence("of several exceptions the one named first is thrown", ClassesEdgesTest::fiscalInOrder);
        edges.end();
    }

    private static void nothingIsThere() {
        for (int what = 0; what < 5; what++) {
            int each = what;
            edges.gives(0, NEW, x -> x.count(each));
        }
        edges.gives(-1, NEW, x -> x.broken());
        edges.gives(-1, NEW, x -> x.find(0, 0, 120000, 0));
        edges.index(NEW, x -> x.covered(0));
        edges.index(NEW, x -> x.due(0));
        edges.index(NEW, x -> x.record(0, 0));
        edges.index(NEW, x -> x.read(0));
        edges.index(NEW, x -> x.listed(0, 0));
        edges.index(NEW, x -> x.approve(0, 0));
        edges.index(NEW, x -> x.strike(0, 0));
        edges.index(NEW, x -> x.carry(0, 0, 0));
        edges.index(NEW, x -> x.act(0, 0));
        edges.index(NEW, x -> x.link(0));
        edges.index(NEW, x -> x.spoil(0, 0, 0));
        edges.index(NEW, x -> x.close(0, 0));
        edges.index(NEW, x -> x.left(0, 0));
        edges.index(NEW, x -> Offices.fileOn(x, 0, 0));
        edges.state(NEW, x -> x.open(0, 0));
        edges.state(NEW, x -> x.lift(0));
    }

    private static void newObjectsShareNothing() {
        RecordsOffice x = new RecordsOffice();
        Offices.withApprovedList(3);
        edges.is(0, x.count(0));
        edges.is(0, x.count(2));
        edges.is(1, x.version(0, 0, 0, 0, false, 0));
        x.open(0, 0);
        Offices.fileOn(x, 0, 0);
        edges.same("IllegalStateException", Probe.outcome(x, y -> y.draw(0, 100)));
    }

    private static void noRights() {
        Recipe due = () -> Offices.withRecords(1);
        for (int officer = 0; officer < 8; officer++) {
            int each = officer;
            edges.state(due, x -> x.draw(each, 100));
        }
        Recipe listed = due.then(x -> {
            x.officer(0, 1);
            x.draw(0, 100);
            x.officer(0, 0);
        });
        for (int officer = 1; officer < 8; officer++) {
            int each = officer;
            edges.state(listed, x -> x.approve(0, each));
        }
        for (int officer = 5; officer < 8; officer++) {
            int each = officer;
            edges.state(LISTED, x -> x.carry(0, each, 100));
        }
    }

    private static void january() {
        Recipe fiscal = () -> Offices.withEvent(3);
        edges.gives(364, fiscal.then(x -> Offices.fileOn(x, 0, 0)), x -> x.due(0));
        edges.gives(364, fiscal.then(x -> Offices.fileOn(x, 0, 364)), x -> x.due(0));
        edges.gives(729, fiscal.then(x -> Offices.fileOn(x, 0, 365)), x -> x.due(0));
    }

    private static void rightsFromNowOn() {
        Recipe first = LISTED.then(x -> x.officer(5, 1));
        edges.takes(first, x -> x.draw(5, 100));
        Recipe second = first.then(x -> x.officer(5, 6));
        edges.state(second, x -> x.draw(5, 100));
        edges.gives(3, second, x -> x.approve(0, 5));
        edges.gives(3, second, x -> x.carry(0, 5, 100));
        Recipe none = second.then(x -> x.officer(5, 0));
        edges.state(none, x -> x.approve(0, 5));
        edges.state(none, x -> x.carry(0, 5, 100));
        // What was approved stays so, and no act is written.
        edges.gives(3, LISTED.then(x -> x.officer(1, 0)).then(x -> x.officer(2, 0)), x -> x.carry(0, 4, 100));
        edges.gives(LISTED.make().count(2), none, x -> x.count(2));
        // Rights are told of one officer alone.
        edges.state(LISTED.then(x -> x.officer(6, 7)), x -> x.draw(5, 100));
    }

    private static void noSuchOfficer() {
        edges.indexOutside(0, 7, LISTED, (x, officer) -> x.officer(officer, 7));
        edges.indexOutside(0, 7, NEW, (x, officer) -> x.officer(officer, 0));
    }

    private static void noSuchRights() {
        edges.argumentOutside(0, 7, LISTED, (x, rights) -> x.officer(0, rights));
        edges.argumentOutside(0, 7, LISTED, (x, rights) -> x.officer(7, rights));
    }

    private static void officerInOrder() {
        new Refusals(edges, (x, n) -> x.officer(n[0], n[1]), 0, 7)
                .index(0, -1, 8)
                .argument(1, -1, 8)
                .takenIn(NEW, LISTED, LISTED.withActs(400))
                .check();
    }

    private static void howManyVersions() {
        for (int cls : new int[] {0, 7}) {
            edges.gives(1, NEW, x -> x.version(cls, 0, 0, 0, false, 0));
            Recipe five = NEW.then(x -> {
                for (int i = 1; i <= 5; i++) {
                    edges.is(i, x.version(cls, 3, 0, 0, true, 0));
                }
            });
            edges.gives(6, five, x -> x.version(cls, 3, 0, 0, true, 0));
        }
        lastActIs("1 7 1211 120000", NEW.then(x -> x.version(7, 3, 100, 11, true, 120000)));
        lastActIs("1 0 0 0", NEW.then(x -> x.version(0, 0, 0, 0, false, 0)));
        lastActIs("1 0 12 5", NEW.then(x -> x.version(0, 0, 1, 0, false, 5)));
        lastActIs("1 0 11 5", NEW.then(x -> x.version(0, 0, 0, 11, false, 5)));
    }

    private static void lastActIs(String want, Recipe recipe) {
        edges.same(want, Offices.lastAct(recipe.make()));
    }

    private static void noSuchClass() {
        edges.indexOutside(0, 7, NEW, (x, cls) -> x.version(cls, 0, 0, 0, false, 0));
    }

    private static void noSuchEvent() {
        edges.argumentOutside(0, 3, NEW, (x, event) -> x.version(0, event, 0, 0, false, 0));
        edges.argumentOutside(2, 2, VERSION, (x, event) -> x.version(0, event, 0, 0, false, 100));
        edges.argument(VERSION, x -> x.version(0, 4, 0, 0, false, 100));
        edges.argument(VERSION, x -> x.version(0, -1, 0, 0, false, 100));
    }

    private static void anotherEvent() {
        for (int has = 0; has < 4; has++) {
            int event = has;
            Recipe recipe = NEW.then(x -> x.version(0, event, 0, 0, false, 0));
            for (int told = 0; told < 4; told++) {
                int each = told;
                if (told == has) {
                    edges.gives(2, recipe, x -> x.version(0, each, 0, 0, false, 0));
                } else {
                    edges.argument(recipe, x -> x.version(0, each, 0, 0, false, 0));
                }
                // The event of one class is not that of another one.
                edges.gives(1, recipe, x -> x.version(1, each, 0, 0, false, 0));
            }
        }
    }

    private static void noTerm() {
        edges.argumentOutside(0, 100, VERSION, (x, years) -> x.version(0, 2, years, 11, false, 100));
        edges.argumentOutside(0, 11, VERSION, (x, months) -> x.version(0, 2, 100, months, false, 100));
        // The months of a term are not made years, nor the other way round.
        edges.argument(VERSION, x -> x.version(0, 2, 1, -1, false, 100));
        edges.argument(VERSION, x -> x.version(0, 2, -1, 12, false, 100));
    }

    private static void beforeTheLatest() {
        edges.argumentOutside(100, 120000, VERSION, (x, day) -> x.version(0, 2, 0, 0, false, day));
        edges.argument(VERSION, x -> x.version(0, 2, 0, 0, true, 0));
        Recipe later = VERSION.then(x -> x.version(0, 2, 0, 0, false, 120000));
        edges.argumentOutside(120000, 120000, later, (x, day) -> x.version(0, 2, 0, 0, false, day));
        // Another class has its own latest version.
        edges.gives(1, VERSION, x -> x.version(1, 2, 0, 0, false, 0));
    }

    private static void noDay() {
        edges.argumentOutside(0, 120000, NEW, (x, day) -> x.version(0, 0, 0, 0, false, day));
        edges.argumentOutside(0, 120000, NEW, (x, day) -> x.version(7, 3, 0, 0, true, day));
    }

    private static void noRoomForAVersion() {
        edges.state(SIX_VERSIONS, x -> x.version(0, 2, 0, 0, false, 100));
        edges.state(VERSION.withActs(400), x -> x.version(0, 2, 0, 0, false, 100));
        edges.state(VERSION.withActs(400), x -> x.version(1, 2, 0, 0, false, 100));
        edges.gives(2, VERSION.withActs(399), x -> x.version(0, 2, 0, 0, false, 100));
    }

    private static void firstDayIsNoActs() {
        Recipe behind = LISTED.then(x -> x.version(0, 0, 0, 0, false, 120000));
        edges.gives(100, behind, x -> x.count(3));
        edges.takes(behind, x -> x.close(0, 100));
        Recipe before = LISTED.then(x -> x.version(1, 0, 0, 0, false, 0));
        edges.gives(100, before, x -> x.count(3));
        edges.argument(before, x -> x.close(0, 99));
    }

    private static void versionInOrder() {
        new Refusals(edges, (x, n) -> x.version(n[0], n[1], n[2], n[3], true, n[4]), 0, 2, 0, 0, 100)
                .index(0, -1, 8)
                .argument(1, -1, 0, 1, 3, 4)
                .argument(2, -1, 101)
                .argument(3, -1, 12)
                .argument(4, -1, 99, 120001)
                .takenIn(VERSION, VERSION.withActs(399))
                .stateIn(SIX_VERSIONS, VERSION.withActs(400), SIX_VERSIONS.withActs(400))
                .check();
    }

    private static void months() {
        Recipe noRecord = () -> Offices.withEvent(3);
        edges.argumentOutside(1, 12, noRecord, (x, month) -> x.fiscal(month));
        edges.argumentOutside(1, 12, NEW, (x, month) -> x.fiscal(month));
        Recipe july = noRecord.then(x -> x.fiscal(7));
        edges.argumentOutside(1, 12, july, (x, month) -> x.fiscal(month));
        edges.gives(0, NEW.then(x -> x.fiscal(12)), x -> x.count(2));
    }

    private static void theLastMonthTold() {
        Recipe noRecord = () -> Offices.withEvent(3);
        Recipe twice = noRecord.then(x -> x.fiscal(12)).then(x -> x.fiscal(2));
        edges.gives(30, twice.then(x -> Offices.fileOn(x, 0, 0)), x -> x.due(0));
        Recipe back = twice.then(x -> x.fiscal(1));
        edges.gives(364, back.then(x -> Offices.fileOn(x, 0, 0)), x -> x.due(0));
        // It needs no room in the book.
        edges.takes(noRecord.withActs(400), x -> x.fiscal(2));
    }

    private static void recordWasFiled() {
        Recipe filed = () -> Offices.withEvent(3);
        Recipe one = filed.then(x -> Offices.fileOn(x, 0, 0));
        edges.takes(filed, x -> x.fiscal(2));
        for (int month : new int[] {1, 2, 12}) {
            edges.state(one, x -> x.fiscal(month));
        }
        Recipe destroyed = LISTED.then(x -> x.carry(0, 4, 100));
        edges.gives(0, destroyed, x -> x.count(4));
        edges.state(destroyed, x -> x.fiscal(2));
    }

    private static void fiscalInOrder() {
        Recipe filed = () -> Offices.withEvent(3);
        new Refusals(edges, (x, n) -> x.fiscal(n[0]), 4)
                .argument(0, 0, 13, -1, Integer.MIN_VALUE, Integer.MAX_VALUE)
                .takenIn(NEW, filed)
                .stateIn(filed.then(x -> Offices.fileOn(x, 0, 0)), LISTED, LISTED.withActs(400))
                .check();
    }
}
