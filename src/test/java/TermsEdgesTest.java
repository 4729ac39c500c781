/** The boundary cases that the document's "Terms" name; those of days, classes and the book have tests of their own. */
public final class TermsEdgesTest {
    private static final Edges edges = new Edges();
    private static final Recipe NEW = RecordsOffice::new;
    private static final Recipe DAY_ZERO = Offices::onDayZero;
    private static final Recipe LISTED = () -> Offices.withApprovedList(3);
    /** Calls that are refused, each for one reason, on an office as LISTED gives it. */
    private static final Recipe.Deed[] REFUSED = {
        x -> x.officer(8, 7),
        x -> x.officer(0, 8),
        x -> x.version(8, 0, 9, 9, true, 0),
        x -> x.version(0, 1, 9, 9, true, 0),
        x -> x.version(0, 0, 101, 0, true, 0),
        x -> x.version(0, 0, 9, 9, true, 120001),
        x -> x.fiscal(13),
        x -> x.fiscal(2),
        x -> x.open(16, 0),
        x -> x.open(0, 0),
        x -> x.open(1, 1),
        x -> x.close(1, 200),
        x -> x.close(0, 99),
        x -> x.left(1, 200),
        x -> x.left(0, 99),
        x -> x.file(1, 1, 1, -1, -1, -1, 200),
        x -> x.file(0, 0, 1, -1, -1, -1, 200),
        x -> x.file(0, 1, 1, -1, -1, 100, 200),
        x -> x.file(0, 1, 1, -1, -1, -1, 99),
        x -> x.hold(8, -1, -1, -1, 0, 120000),
        x -> x.hold(0, 16, -1, -1, 0, 120000),
        x -> x.hold(0, -1, -1, -1, 1, 0),
        x -> x.lift(8),
        x -> x.lift(0),
        x -> x.covered(3),
        x -> x.due(3),
        x -> x.record(3, 0),
        x -> x.record(0, 5),
        x -> x.read(3),
        x -> x.find(-1, 0, 120000, 0),
        x -> x.draw(8, 200),
        x -> x.draw(0, 99),
        x -> x.draw(5, 200),
        x -> x.listed(1, 0),
        x -> x.listed(0, -1),
        x -> x.approve(1, 3),
        x -> x.approve(0, 0),
        x -> x.approve(0, 1),
        x -> x.strike(0, 3),
        x -> x.carry(1, 4, 200),
        x -> x.carry(0, 4, 99),
        x -> x.carry(0, 5, 200),
        x -> x.count(5),
        x -> x.act(-1, 0),
        x -> x.act(0, 4),
        x -> x.link(-1),
        x -> x.spoil(-1, 0, 9),
        x -> x.spoil(0, 4, 9),
        x -> x.later(-1, 0, 0),
    };

    public static void main(String[] args) {
        edges.promise("Terms, folders and records");
        edges.sentence("FOLDERS 0 .. 15", TermsEdgesTest::folders);
        edges.sentence("are not there at first", TermsEdgesTest::noFolderYet);
        edges.sentence("each is opened with a class that has a version", TermsEdgesTest::classWithAVersion);
        edges.sentence("RECORDS get numbers 0, 1, .., 64 at most", TermsEdgesTest::sixtyFourRecords);
        edges.sentence("each is in a folder that was open then", TermsEdgesTest::folderOpenThen);
        edges.sentence("up to three KEYS (0 .. 99)", TermsEdgesTest::keys);
        edges.sentence("a size (1 .. 65536 bytes)", TermsEdgesTest::sizes);
        edges.sentence("a DIGEST, a long", TermsEdgesTest::digests);

        edges.promise("Terms, holds");
        edges.sentence("HOLDS 0 .. 7", TermsEdgesTest::holds);
        edges.sentence("a folder (or all), a class (or all), a key (or all)", TermsEdgesTest::allOrOne);
        edges.sentence("also those that come later", TermsEdgesTest::comesLater);
        edges.sentence("FILED on a day from the first to the last one", TermsEdgesTest::holdDays);

        edges.promise("Terms, lists and officers");
        edges.sentence("LISTS get numbers 0, 1, .., 16 at most", TermsEdgesTest::sixteenLists);
        edges.sentence("are DUE on that day or before", TermsEdgesTest::dueOnTheDayOfDrawing);
        edges.sentence("that are not destroyed", TermsEdgesTest::drawsNoDestroyedOnes);
        edges.sentence("and are not COVERED, in order", TermsEdgesTest::drawsUncovered);
        edges.sentence("It is OPEN until it is CARRIED OUT", TermsEdgesTest::openUntilCarried);
        edges.sentence("OFFICERS 0 .. 7", TermsEdgesTest::officers);
        edges.sentence("1 to draw up, 2 to approve, 4 to carry out (put together)", TermsEdgesTest::eachRights);
        edges.sentence("A list that two officers have approved may be CARRIED OUT", TermsEdgesTest::twoApprovals);
        edges.sentence("each of its records (those not STRUCK)", TermsEdgesTest::struckStay);
        edges.sentence("that is not destroyed, is DUE on that day or before and not COVERED is destroyed",
                TermsEdgesTest::dueOnTheDayOfCarrying);
        edges.sentence("the others are SKIPPED", TermsEdgesTest::skipped);

        edges.promise("Terms, exceptions");
        edges.sentence("The DAY of the office is that of the latest act that had one (0 at first)",
                TermsEdgesTest::dayOfTheOffice);
        edges.sentence("none may be before it", TermsEdgesTest::noneBefore);
        edges.sentence("A call that throws changes nothing", TermsEdgesTest::changesNothing);
        edges.sentence("there is no such class, folder, record, hold, list, officer, act (also one that is not there yet)",
                TermsEdgesTest::notThereYet);
        edges.sentence("another number is not as said, or a day before that of the office", TermsEdgesTest::otherDays);
        edges.sentence("what is told can't be done as things are, or there is no room (also in the book)",
                TermsEdgesTest::noRoom);

        edges.promise("What it is");
        edges.sentence("An object is used for at most 512 calls after it has been made", TermsEdgesTest::theLastCall);
        edges.end();
    }

    private static void folders() {
        Recipe one = NEW.then(x -> x.version(0, 0, 0, 0, false, 0));
        edges.indexOutside(0, 15, one, (x, folder) -> x.open(folder, 0));
        edges.indexOutside(-1, 15, one, (x, folder) -> x.hold(0, folder, -1, -1, 0, 0));
        Recipe all = one.then(x -> {
            for (int folder = 0; folder < 16; folder++) {
                x.open(folder, 0);
            }
        });
        edges.indexOutside(0, 15, all, (x, folder) -> x.close(folder, 0));
        edges.indexOutside(0, 15, all, (x, folder) -> x.left(folder, 0));
        edges.indexOutside(0, 15, all, (x, folder) -> Offices.fileOn(x, folder, 0));
        for (int folder = 0; folder < 16; folder++) {
            int each = folder;
            edges.state(all, x -> x.open(each, 0));
            edges.gives(each, all.then(x -> Offices.fileOn(x, each, 0)), x -> x.record(0, 0));
        }
    }

    private static void noFolderYet() {
        Recipe allButOne = NEW.then(x -> {
            x.version(0, 0, 0, 0, false, 0);
            for (int folder = 0; folder < 16; folder++) {
                if (folder != 9) {
                    x.open(folder, 0);
                }
            }
        });
        for (Recipe recipe : new Recipe[] {NEW, allButOne}) {
            edges.index(recipe, x -> x.close(9, 0));
            edges.index(recipe, x -> x.left(9, 0));
            edges.index(recipe, x -> Offices.fileOn(x, 9, 0));
            // A hold may tell of a folder that is not there.
            edges.takes(recipe, x -> x.hold(0, 9, -1, -1, 0, 0));
        }
        edges.takes(allButOne, x -> x.open(9, 0));
    }

    private static void classWithAVersion() {
        Recipe one = NEW.then(x -> x.version(3, 0, 0, 0, false, 120000));
        for (int cls = 0; cls < 8; cls++) {
            int each = cls;
            edges.state(NEW, x -> x.open(0, each));
            if (cls == 3) {
                // A version whose first day is still to come is one.
                edges.takes(one, x -> x.open(0, each));
            } else {
                edges.state(one, x -> x.open(0, each));
            }
        }
    }

    private static void sixtyFourRecords() {
        for (int records : new int[] {0, 1, 62, 63}) {
            Recipe some = () -> Offices.withRecords(records);
            edges.gives(records, some, x -> Offices.fileOn(x, 0, 70));
        }
        Recipe all = () -> Offices.withRecords(64);
        edges.gives(64, all, x -> x.count(0));
        edges.state(all, x -> Offices.fileOn(x, 0, 70));
        // There is no more room either when they are destroyed.
        Recipe gone = () -> Offices.withApprovedList(64);
        Recipe carried = gone.then(x -> edges.is(64, x.carry(0, 4, 100)));
        edges.state(carried, x -> Offices.fileOn(x, 0, 100));
    }

    private static void folderOpenThen() {
        Recipe closed = () -> {
            RecordsOffice x = Offices.withRecords(1);
            x.open(1, 0);
            x.close(0, 5);
            return x;
        };
        edges.state(closed, x -> Offices.fileOn(x, 0, 5));
        edges.state(closed, x -> Offices.fileOn(x, 0, 120000));
        edges.gives(1, closed, x -> Offices.fileOn(x, 1, 5));
        edges.gives(0, closed, x -> x.record(0, 0));
        edges.gives(1000, closed, x -> x.read(0));
    }

    private static void keys() {
        edges.argumentOutside(-1, 99, DAY_ZERO, (x, key) -> x.file(0, 1, 1, key, -1, -1, 0));
        edges.argumentOutside(-1, 99, DAY_ZERO, (x, key) -> x.file(0, 1, 1, -1, key, -1, 0));
        edges.argumentOutside(-1, 99, DAY_ZERO, (x, key) -> x.file(0, 1, 1, -1, -1, key, 0));
        edges.argumentOutside(-1, 99, DAY_ZERO, (x, key) -> x.hold(0, -1, -1, key, 0, 0));
        edges.argumentOutside(0, 99, DAY_ZERO, (x, key) -> x.find(key, 0, 120000, 0));
        Recipe filed = DAY_ZERO.then(x -> x.file(0, 1, 1, 0, 99, 50, 0));
        edges.gives(1, filed, x -> x.find(99, 0, 0, 0));
        edges.gives(1, filed, x -> x.find(0, 0, 0, 1));
        edges.gives(1, filed, x -> x.find(50, 0, 0, 0));
        edges.gives(3, filed, x -> x.record(1, 4));
    }

    private static void sizes() {
        edges.argumentOutside(1, 65536, DAY_ZERO, (x, size) -> x.file(0, size, 1, -1, -1, -1, 0));
        for (int size : new int[] {1, 65536}) {
            Recipe filed = DAY_ZERO.then(x -> x.file(0, size, 1, -1, -1, -1, 0));
            edges.gives(size, filed, x -> x.record(1, 2));
            edges.gives(1 + size, filed, x -> x.count(4));
        }
    }

    private static void digests() {
        for (long digest : new long[] {Long.MIN_VALUE, -1, 0, 1, 1L << 32, Long.MAX_VALUE}) {
            Recipe filed = DAY_ZERO.then(x -> x.file(0, 1, digest, -1, -1, -1, 0));
            edges.gives(digest, filed, x -> x.read(1));
            edges.gives(-1, filed, x -> x.broken());
        }
    }

    private static void holds() {
        edges.indexOutside(0, 7, NEW, (x, hold) -> x.hold(hold, -1, -1, -1, 0, 0));
        Recipe all = () -> Offices.withRecords(1);
        Recipe placed = all.then(x -> {
            for (int hold = 0; hold < 8; hold++) {
                x.hold(hold, -1, -1, -1, 0, 0);
            }
        });
        edges.indexOutside(0, 7, placed, (x, hold) -> x.lift(hold));
        edges.gives(8, placed, x -> x.covered(0));
        for (int hold = 0; hold < 8; hold++) {
            int each = hold;
            edges.state(placed, x -> x.hold(each, -1, -1, -1, 0, 0));
            edges.state(all, x -> x.lift(each));
            edges.gives(7, placed.then(x -> x.lift(each)), x -> x.covered(0));
        }
    }

    /** Records in folder 0 of class 0, folder 15 of class 0, folder 1 of class 7; keys 0 99 none, 50, none. */
    private static void allOrOne() {
        Recipe filed = NEW.then(x -> {
            x.version(0, 0, 0, 0, false, 0);
            x.version(7, 0, 0, 0, false, 0);
            x.open(0, 0);
            x.open(15, 0);
            x.open(1, 7);
            x.file(0, 1, 1, 0, 99, -1, 0);
            x.file(15, 1, 1, -1, -1, 50, 0);
            x.file(1, 1, 1, -1, -1, -1, 0);
        });
        coveredAre("111", filed.then(x -> x.hold(0, -1, -1, -1, 0, 0)));
        coveredAre("100", filed.then(x -> x.hold(0, 0, -1, -1, 0, 0)));
        coveredAre("010", filed.then(x -> x.hold(0, 15, -1, -1, 0, 0)));
        coveredAre("110", filed.then(x -> x.hold(0, -1, 0, -1, 0, 0)));
        coveredAre("001", filed.then(x -> x.hold(0, -1, 7, -1, 0, 0)));
        coveredAre("000", filed.then(x -> x.hold(0, -1, 6, -1, 0, 0)));
        coveredAre("100", filed.then(x -> x.hold(0, -1, -1, 0, 0, 0)));
        coveredAre("100", filed.then(x -> x.hold(0, -1, -1, 99, 0, 0)));
        coveredAre("010", filed.then(x -> x.hold(0, -1, -1, 50, 0, 0)));
        coveredAre("000", filed.then(x -> x.hold(0, 1, 0, -1, 0, 0)));
        coveredAre("000", filed.then(x -> x.hold(0, 0, 0, 50, 0, 0)));
        coveredAre("000", filed.then(x -> x.hold(0, 0, 0, 99, 1, 120000)));
        coveredAre("100", filed.then(x -> x.hold(0, 0, 0, 99, 0, 120000)));
    }

    private static void coveredAre(String want, Recipe recipe) {
        RecordsOffice x = recipe.make();
        StringBuilder got = new StringBuilder();
        for (int i = 0; i < x.count(0); i++) {
            got.append(x.covered(i));
        }
        edges.same(want, got.toString());
    }

    private static void comesLater() {
        Recipe before = NEW.then(x -> {
            x.hold(0, 15, 7, 99, 0, 120000);
            x.version(7, 0, 0, 0, false, 0);
            x.open(15, 7);
        });
        coveredAre("1", before.then(x -> x.file(15, 1, 1, 99, -1, -1, 0)));
        coveredAre("1", before.then(x -> x.file(15, 1, 1, -1, -1, 99, 120000)));
        coveredAre("0", before.then(x -> x.file(15, 1, 1, 98, -1, -1, 0)));
        Recipe lifted = before.then(x -> x.lift(0));
        coveredAre("0", lifted.then(x -> x.file(15, 1, 1, 99, -1, -1, 0)));
    }

    private static void holdDays() {
        Recipe filed = () -> Offices.withRecords(5);
        coveredAre("01110", filed.then(x -> x.hold(0, -1, -1, -1, 1, 3)));
        coveredAre("00100", filed.then(x -> x.hold(0, -1, -1, -1, 2, 2)));
        coveredAre("10000", filed.then(x -> x.hold(0, -1, -1, -1, 0, 0)));
        coveredAre("00001", filed.then(x -> x.hold(0, -1, -1, -1, 4, 120000)));
        coveredAre("00000", filed.then(x -> x.hold(0, -1, -1, -1, 5, 120000)));
        coveredAre("11111", filed.then(x -> x.hold(0, -1, -1, -1, 0, 4)));
        Recipe last = filed.then(x -> Offices.fileOn(x, 0, 120000));
        coveredAre("000001", last.then(x -> x.hold(0, -1, -1, -1, 120000, 120000)));
        coveredAre("111110", last.then(x -> x.hold(0, -1, -1, -1, 0, 119999)));
    }

    private static void sixteenLists() {
        Recipe fifteen = () -> {
            RecordsOffice x = Offices.withList(1);
            for (int list = 1; list < 15; list++) {
                edges.is(list, x.draw(0, 100));
            }
            return x;
        };
        edges.gives(15, fifteen, x -> x.draw(0, 100));
        Recipe sixteen = fifteen.then(x -> x.draw(0, 100));
        edges.gives(16, sixteen, x -> x.count(1));
        edges.state(sixteen, x -> x.draw(0, 100));
        edges.gives(0, sixteen, x -> x.listed(15, 0));
        edges.index(sixteen, x -> x.listed(16, 0));
        // A list that is carried out keeps its number.
        Recipe carried = sixteen.then(x -> {
            x.approve(0, 1);
            x.approve(0, 2);
            x.strike(0, 0);
            x.carry(0, 4, 100);
        });
        edges.state(carried, x -> x.draw(0, 100));
    }

    private static void dueOnTheDayOfDrawing() {
        Recipe due31 = NEW.then(x -> {
            x.version(0, 0, 0, 1, false, 0);
            x.open(0, 0);
            Offices.fileOn(x, 0, 0);
            x.officer(0, 1);
        });
        edges.state(due31, x -> x.draw(0, 30));
        edges.gives(0, due31, x -> x.draw(0, 31));
        edges.gives(0, due31, x -> x.draw(0, 32));
        edges.gives(0, due31, x -> x.draw(0, 120000));
        // The event has not been: the record is not due on any day.
        Recipe noEvent = NEW.then(x -> {
            x.version(0, 1, 0, 0, false, 0);
            x.open(0, 0);
            Offices.fileOn(x, 0, 0);
            x.officer(0, 1);
        });
        edges.state(noEvent, x -> x.draw(0, 0));
        edges.state(noEvent, x -> x.draw(0, 120000));
        edges.gives(0, noEvent.then(x -> x.close(0, 0)), x -> x.draw(0, 0));
    }

    private static void drawsNoDestroyedOnes() {
        Recipe carried = LISTED.then(x -> x.strike(0, 1)).then(x -> x.carry(0, 4, 100));
        edges.same("1", Offices.list(carried.then(x -> x.draw(0, 100)).make(), 1));
        Recipe allGone = LISTED.then(x -> x.carry(0, 4, 100));
        edges.state(allGone, x -> x.draw(0, 120000));
    }

    private static void drawsUncovered() {
        Recipe held = LISTED.then(x -> x.hold(0, -1, -1, -1, 1, 1));
        edges.same("0 2", Offices.list(held.then(x -> x.draw(0, 100)).make(), 1));
        Recipe allHeld = LISTED.then(x -> x.hold(0, -1, -1, -1, 0, 120000));
        edges.state(allHeld, x -> x.draw(0, 100));
        edges.same("0 1 2", Offices.list(allHeld.then(x -> x.lift(0)).then(x -> x.draw(0, 100)).make(), 1));
        Recipe twoHolds = allHeld.then(x -> x.hold(1, -1, -1, -1, 0, 120000));
        edges.state(twoHolds.then(x -> x.lift(0)), x -> x.draw(0, 100));
    }

    private static void openUntilCarried() {
        edges.takes(LISTED, x -> x.approve(0, 3));
        edges.takes(LISTED, x -> x.strike(0, 2));
        edges.takes(LISTED, x -> x.carry(0, 4, 100));
        Recipe empty = LISTED.then(x -> x.strike(0, 0)).then(x -> x.strike(0, 1)).then(x -> x.strike(0, 2));
        edges.takes(empty, x -> x.approve(0, 3));
        edges.gives(0, empty, x -> x.carry(0, 4, 100));
        Recipe allSkipped = LISTED.then(x -> x.hold(0, -1, -1, -1, 0, 120000)).then(x -> x.carry(0, 4, 100));
        for (Recipe carried : new Recipe[] {LISTED.then(x -> x.carry(0, 4, 100)), allSkipped}) {
            edges.state(carried, x -> x.approve(0, 3));
            edges.state(carried, x -> x.strike(0, 2));
            edges.state(carried, x -> x.carry(0, 4, 100));
        }
    }

    private static void officers() {
        Recipe all = DAY_ZERO.then(x -> {
            for (int officer = 4; officer < 8; officer++) {
                x.officer(officer, 7);
            }
            x.officer(0, 0);
            x.draw(7, 0);
            x.officer(0, 7);
        });
        edges.indexOutside(0, 7, DAY_ZERO, (x, officer) -> x.officer(officer, 7));
        edges.indexOutside(0, 7, all, (x, officer) -> x.draw(officer, 0));
        edges.indexOutside(0, 7, all, (x, officer) -> x.carry(0, officer, 0));
        // List 0 was drawn up by officer 0, list 1 by officer 7.
        edges.gives(1, all, x -> x.approve(1, 0));
        edges.gives(3, all, x -> x.approve(0, 7));
        for (int officer : new int[] {-1, 8, Integer.MIN_VALUE, Integer.MAX_VALUE}) {
            edges.index(all, x -> x.approve(0, officer));
        }
    }

    private static void eachRights() {
        for (int rights = 0; rights <= 7; rights++) {
            int each = rights;
            Recipe recipe = LISTED.then(x -> x.officer(5, each));
            takesIf((rights & 1) != 0, recipe, x -> x.draw(5, 100));
            takesIf((rights & 2) != 0, recipe, x -> x.approve(0, 5));
            takesIf((rights & 4) != 0, recipe, x -> x.carry(0, 5, 100));
        }
    }

    private static void takesIf(boolean right, Recipe recipe, Recipe.Deed deed) {
        if (right) {
            edges.takes(recipe, deed);
        } else {
            edges.state(recipe, deed);
        }
    }

    private static void twoApprovals() {
        Recipe none = () -> Offices.withList(3);
        Recipe one = none.then(x -> x.approve(0, 1));
        Recipe two = one.then(x -> x.approve(0, 2));
        Recipe three = two.then(x -> x.approve(0, 3));
        edges.state(none, x -> x.carry(0, 4, 100));
        edges.state(one, x -> x.carry(0, 4, 100));
        edges.gives(3, two, x -> x.carry(0, 4, 100));
        edges.gives(3, three, x -> x.carry(0, 4, 100));
        // Approvals of one list are not those of another one.
        Recipe another = two.then(x -> x.draw(0, 100)).then(x -> x.approve(1, 1));
        edges.state(another, x -> x.carry(1, 4, 100));
    }

    private static void struckStay() {
        Recipe struck = LISTED.then(x -> x.strike(0, 1));
        RecordsOffice x = struck.make();
        edges.is(2, x.carry(0, 4, 100));
        edges.is(1, x.record(0, 3));
        edges.is(0, x.record(1, 3));
        edges.is(1, x.record(2, 3));
        edges.same("12 0 100 0", Offices.lastAct(x));
    }

    /** Drawn up when the term was none; under a longer one, for all, record 0 is due on day 212, and so on. */
    private static void dueOnTheDayOfCarrying() {
        Recipe longer = LISTED.then(x -> x.version(0, 0, 0, 7, true, 120000));
        edges.gives(212, longer, x -> x.due(0));
        edges.gives(214, longer, x -> x.due(2));
        edges.gives(0, longer, x -> x.carry(0, 4, 211));
        edges.gives(1, longer, x -> x.carry(0, 4, 212));
        edges.gives(2, longer, x -> x.carry(0, 4, 213));
        edges.gives(3, longer, x -> x.carry(0, 4, 214));
        Recipe held = LISTED.then(x -> x.hold(0, -1, -1, -1, 1, 1));
        edges.gives(2, held, x -> x.carry(0, 4, 100));
        edges.gives(3, held.then(x -> x.lift(0)), x -> x.carry(0, 4, 100));
        Recipe twice = LISTED.then(x -> {
            x.draw(0, 100);
            x.approve(1, 1);
            x.approve(1, 2);
            x.strike(1, 0);
            x.carry(1, 4, 100);
        });
        edges.gives(1, twice, x -> x.carry(0, 4, 100));
    }

    private static void skipped() {
        lastActIs("12 0 211 3", LISTED.then(x -> x.version(0, 0, 0, 7, true, 0)).then(x -> x.carry(0, 4, 211)));
        lastActIs("12 0 100 0", LISTED.then(x -> x.carry(0, 4, 100)));
        lastActIs("12 0 100 1", LISTED.then(x -> x.hold(0, -1, -1, -1, 1, 1)).then(x -> x.carry(0, 4, 100)));
        Recipe all = () -> Offices.withApprovedList(64);
        lastActIs("12 0 100 0", all.then(x -> x.carry(0, 4, 100)));
        lastActIs("12 0 100 64", all.then(x -> x.hold(0, -1, -1, -1, 0, 63)).then(x -> x.carry(0, 4, 100)));
        lastActIs("12 0 100 1", all.then(x -> x.hold(0, -1, -1, -1, 63, 63)).then(x -> x.carry(0, 4, 100)));
    }

    private static void lastActIs(String want, Recipe recipe) {
        edges.same(want, Offices.lastAct(recipe.make()));
    }

    private static void dayOfTheOffice() {
        edges.gives(0, NEW, x -> x.count(3));
        Recipe noDays = NEW.then(x -> {
            x.version(0, 0, 0, 0, false, 500);
            x.open(0, 0);
            x.hold(0, -1, -1, -1, 600, 700);
            x.lift(0);
            x.officer(0, 7);
            x.fiscal(5);
        });
        edges.gives(0, noDays, x -> x.count(3));
        edges.gives(100, LISTED, x -> x.count(3));
        edges.gives(120000, LISTED.then(x -> x.close(0, 120000)), x -> x.count(3));
        edges.gives(120000, LISTED.then(x -> x.left(0, 120000)), x -> x.count(3));
        edges.gives(120000, LISTED.then(x -> Offices.fileOn(x, 0, 120000)), x -> x.count(3));
        edges.gives(120000, LISTED.then(x -> x.draw(0, 120000)), x -> x.count(3));
        edges.gives(120000, LISTED.then(x -> x.carry(0, 4, 120000)), x -> x.count(3));
        edges.gives(100, LISTED.then(x -> x.strike(0, 0)), x -> x.count(3));
        edges.gives(100, LISTED.then(x -> x.approve(0, 3)), x -> x.count(3));
        // A list of which nothing is destroyed was carried out on a day all the same.
        Recipe held = LISTED.then(x -> x.hold(0, -1, -1, -1, 0, 120000));
        edges.gives(101, held.then(x -> x.carry(0, 4, 101)), x -> x.count(3));
    }

    private static void noneBefore() {
        for (int day : new int[] {99, 0}) {
            edges.argument(LISTED, x -> x.close(0, day));
            edges.argument(LISTED, x -> x.left(0, day));
            edges.argument(LISTED, x -> Offices.fileOn(x, 0, day));
            edges.argument(LISTED, x -> x.draw(0, day));
            edges.argument(LISTED, x -> x.carry(0, 4, day));
        }
        edges.takes(LISTED, x -> x.close(0, 100));
        edges.takes(LISTED, x -> x.left(0, 100));
        edges.takes(LISTED, x -> Offices.fileOn(x, 0, 100));
        edges.takes(LISTED, x -> x.draw(0, 100));
        edges.takes(LISTED, x -> x.carry(0, 4, 100));
        Recipe last = LISTED.then(x -> x.left(0, 120000));
        edges.argument(last, x -> x.close(0, 119999));
        edges.takes(last, x -> x.close(0, 120000));
    }

    private static void changesNothing() {
        Recipe allRefused = LISTED.then(x -> {
            for (Recipe.Deed deed : REFUSED) {
                edges.same("refused", outcome(x, deed));
            }
        });
        edges.same(Probe.of(LISTED), Probe.of(allRefused));
    }

    private static String outcome(RecordsOffice x, Recipe.Deed deed) {
        try {
            deed.on(x);
            return "taken";
        } catch (RuntimeException e) {
            return "refused";
        }
    }

    /** The first that there is no room for, of each thing that there may be only so many of. */
    private static void noRoom() {
        Recipe full = LISTED.then(x -> {
            for (int i = 0; i < 5; i++) {
                x.version(0, 0, 0, 0, false, 0);
            }
            for (int i = 0; i < 61; i++) {
                Offices.fileOn(x, 0, 100);
            }
            for (int i = 0; i < 15; i++) {
                x.draw(0, 100);
            }
        });
        edges.state(full, x -> x.version(0, 0, 0, 0, false, 0));
        edges.state(full, x -> Offices.fileOn(x, 0, 100));
        edges.state(full, x -> x.draw(0, 100));
        edges.takes(full, x -> x.close(0, 100));
        edges.state(full.withActs(400), x -> x.close(0, 100));
    }

    private static void theLastCall() {
        Recipe before = NEW.then(x -> {
            for (int i = 0; i < 200; i++) {
                x.hold(7, 15, 7, 99, 0, 0);
                x.lift(7);
            }
            for (int i = 400; i < 511; i++) {
                x.later(120000, 100, 11);
            }
        });
        edges.gives(400, before, x -> x.count(2));
        edges.gives(-1, before, x -> x.broken());
        edges.gives(120031, before, x -> x.later(120000, 0, 1));
        edges.same("IllegalStateException", Probe.outcome(before.make(), x -> x.version(0, 0, 0, 0, false, 0)));
    }

    private static void notThereYet() {
        int acts = LISTED.make().count(2);
        edges.index(LISTED, x -> x.close(1, 100));
        edges.indexOutside(0, 2, LISTED, (x, record) -> x.due(record));
        edges.indexOutside(0, 2, LISTED, (x, record) -> x.strike(0, record));
        edges.indexOutside(0, 0, LISTED, (x, list) -> x.listed(list, 0));
        edges.indexOutside(0, acts - 1, LISTED, (x, i) -> x.act(i, 0));
        edges.index(NEW, x -> x.close(0, 0));
        edges.index(NEW, x -> x.due(0));
        edges.index(NEW, x -> x.listed(0, 0));
        edges.index(NEW, x -> x.act(0, 0));
    }

    /** Only the day of an act may not be before that of the office: others may. */
    private static void otherDays() {
        edges.takes(LISTED, x -> x.version(1, 0, 0, 0, false, 0));
        edges.takes(LISTED, x -> x.version(0, 0, 0, 0, false, 99));
        edges.takes(LISTED, x -> x.hold(0, -1, -1, -1, 0, 99));
        edges.takes(LISTED, x -> x.find(0, 0, 99, 0));
        edges.takes(LISTED, x -> x.later(0, 0, 0));
    }
}
