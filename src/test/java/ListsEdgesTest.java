/** The boundary cases of promises 16 (draw), 17 (listed), 18 (approve), 19 (strike) and 20 (carry). */
public final class ListsEdgesTest {
    private static final Edges edges = new Edges();
    private static final Recipe NEW = RecordsOffice::new;
    /** Records 0, 1, 2 on list 0, drawn up by officer 0 on day 100; officers 1, 2, 3 may approve, 4 carry out. */
    private static final Recipe LISTED = () -> Offices.withList(3);
    private static final Recipe ONE_APPROVED = LISTED.then(x -> x.approve(0, 1));
    private static final Recipe APPROVED = ONE_APPROVED.then(x -> x.approve(0, 2));
    private static final Recipe CARRIED = APPROVED.then(x -> x.carry(0, 4, 100));
    private static final Recipe ALL_HELD = APPROVED.then(x -> x.hold(0, -1, -1, -1, 0, 120000));
    private static final Recipe SIXTEEN = APPROVED.then(x -> {
        for (int list = 1; list < 16; list++) {
            x.draw(0, 100);
        }
    });

    public static void main(String[] args) {
        edges.promise("Promise 16: draw");
        edges.sentence("A list is DRAWN UP by an officer: its number.", ListsEdgesTest::numbersOfLists);
        edges.sentence("IndexOutOfBoundsException", ListsEdgesTest::drawnByNoSuchOfficer);
        edges.sentence("IllegalArgumentException", ListsEdgesTest::drawnOnNoSuchDay);
        edges.sentence("the officer has not the right", ListsEdgesTest::noRightToDraw);
        edges.sentence("no record is to be on it", ListsEdgesTest::noRecordIsToBeOnIt);
        edges.sentence("or there are 16", ListsEdgesTest::thereAre16);
        edges.sentence("of several exceptions the one named first is thrown", ListsEdgesTest::drawInOrder);

        edges.promise("Promise 17: listed");
        edges.sentence("Record i of a list", ListsEdgesTest::recordsOfAList);
        edges.sentence("STRUCK ones are gone from it; SKIPPED and destroyed ones are not", ListsEdgesTest::goneFromIt);
        edges.sentence("NONE behind its end", ListsEdgesTest::behindItsEnd);
        edges.sentence("IndexOutOfBoundsException: there is no such list", ListsEdgesTest::noSuchList);
        edges.sentence("or i is below 0", ListsEdgesTest::belowZero);

        edges.promise("Promise 18: approve");
        edges.sentence("An officer approves an OPEN list: how many have.", ListsEdgesTest::howManyHave);
        edges.sentence("IndexOutOfBoundsException", ListsEdgesTest::approvesNoSuchList);
        edges.sentence("it is not OPEN", ListsEdgesTest::approvesNoCarriedList);
        edges.sentence("the officer has not the right", ListsEdgesTest::noRightToApprove);
        edges.sentence("drew it up", ListsEdgesTest::drewItUp);
        edges.sentence("or approved it already", ListsEdgesTest::approvedAlready);
        edges.sentence("of several exceptions the one named first is thrown", ListsEdgesTest::approveInOrder);

        edges.promise("Promise 19: strike");
        edges.sentence("A record is STRUCK from an OPEN list: how many are left.", ListsEdgesTest::howManyAreLeft);
        edges.sentence("Approvals stay.", ListsEdgesTest::approvalsStay);
        edges.sentence("no such list, or the record is not on it", ListsEdgesTest::notOnIt);
        edges.sentence("IllegalStateException: it is not OPEN.", ListsEdgesTest::strikesFromNoCarriedList);
        edges.sentence("of several exceptions the one named first is thrown", ListsEdgesTest::strikeInOrder);

        edges.promise("Promise 20: carry");
        edges.sentence("A list is CARRIED OUT: how many records were destroyed.", ListsEdgesTest::howManyDestroyed);
        edges.sentence("IndexOutOfBoundsException", ListsEdgesTest::carriesNoSuchList);
        edges.sentence("IllegalArgumentException", ListsEdgesTest::carriesOnNoSuchDay);
        edges.sentence("it is not OPEN", ListsEdgesTest::carriesNoListTwice);
        edges.sentence("fewer than two approved it", ListsEdgesTest::fewerThanTwo);
        edges.sentence("or the officer has not the right", ListsEdgesTest::noRightToCarry);
        edges.sentence("of several exceptions the one named first is thrown", ListsEdgesTest::carryInOrder);
        edges.end();
    }

    private static void lastActIs(String want, Recipe recipe) {
        edges.same(want, Offices.lastAct(recipe.make()));
    }

    private static void listIs(String want, int list, Recipe recipe) {
        edges.same(want, Offices.list(recipe.make(), list));
    }

    private static void numbersOfLists() {
        Recipe none = () -> Offices.withRecords(3);
        Recipe may = none.then(x -> x.officer(7, 1));
        edges.gives(0, may, x -> x.draw(7, 2));
        edges.gives(1, LISTED, x -> x.draw(0, 100));
        lastActIs("8 0 2 3", may.then(x -> x.draw(7, 2)));
        lastActIs("8 1 120000 3", LISTED.then(x -> x.draw(0, 120000)));
        lastActIs("8 15 100 3", SIXTEEN);
        Recipe one = may.then(x -> x.hold(0, -1, -1, -1, 0, 1));
        lastActIs("8 0 2 1", one.then(x -> x.draw(7, 2)));
        Recipe all = () -> Offices.withList(64);
        lastActIs("8 0 100 64", all);
        edges.gives(16, SIXTEEN, x -> x.count(1));
    }

    private static void drawnByNoSuchOfficer() {
        Recipe all = LISTED.then(x -> {
            for (int officer = 0; officer < 8; officer++) {
                x.officer(officer, 1);
            }
        });
        edges.indexOutside(0, 7, all, (x, officer) -> x.draw(officer, 100));
    }

    private static void drawnOnNoSuchDay() {
        edges.argumentOutside(100, 120000, LISTED, (x, day) -> x.draw(0, day));
        edges.argument(LISTED, x -> x.draw(0, 0));
        edges.argument(LISTED, x -> x.draw(0, -1));
    }

    private static void noRightToDraw() {
        for (int rights = 0; rights < 8; rights++) {
            int each = rights;
            Recipe recipe = LISTED.then(x -> x.officer(5, each));
            if (rights % 2 == 1) {
                edges.gives(1, recipe, x -> x.draw(5, 100));
            } else {
                edges.state(recipe, x -> x.draw(5, 100));
            }
        }
        edges.state(LISTED, x -> x.draw(6, 100));
    }

    private static void noRecordIsToBeOnIt() {
        Recipe may = NEW.then(x -> x.officer(0, 7));
        edges.state(may, x -> x.draw(0, 0));
        edges.state(may, x -> x.draw(0, 120000));
        edges.state(CARRIED, x -> x.draw(0, 120000));
        edges.state(ALL_HELD, x -> x.draw(0, 120000));
        Recipe notDue = LISTED.then(x -> x.version(0, 0, 0, 7, true, 0));
        edges.state(notDue, x -> x.draw(0, 211));
        edges.gives(1, notDue, x -> x.draw(0, 212));
        // Records that are on another list are to be on this one too.
        listIs("0 1 2", 1, APPROVED.then(x -> x.draw(0, 100)));
    }

    private static void thereAre16() {
        edges.state(SIXTEEN, x -> x.draw(0, 100));
        edges.state(SIXTEEN, x -> x.draw(0, 120000));
        edges.state(SIXTEEN.then(x -> x.strike(0, 0)).then(x -> x.carry(0, 4, 100)), x -> x.draw(0, 100));
    }

    private static void drawInOrder() {
        Recipe noRight = APPROVED.then(x -> x.officer(0, 6));
        new Refusals(edges, (x, n) -> x.draw(n[0], n[1]), 0, 100)
                .index(0, -1, 8)
                .argument(1, -1, 99, 120001)
                .takenIn(LISTED, APPROVED, APPROVED.withActs(399))
                .stateIn(noRight, CARRIED, ALL_HELD, SIXTEEN, APPROVED.withActs(400), noRight.withActs(400))
                .check();
    }

    private static void recordsOfAList() {
        edges.gives(0, LISTED, x -> x.listed(0, 0));
        edges.gives(2, LISTED, x -> x.listed(0, 2));
        Recipe all = () -> Offices.withList(64);
        for (int i : new int[] {0, 1, 31, 32, 62, 63}) {
            edges.gives(i, all, x -> x.listed(0, i));
        }
        edges.gives(2, SIXTEEN, x -> x.listed(15, 2));
        Recipe last = all.then(x -> x.hold(0, -1, -1, -1, 0, 62)).then(x -> x.draw(0, 100));
        listIs("63", 1, last);
        // What is filed, held or due later is not put on it.
        listIs("0 1 2", 0, LISTED.then(x -> Offices.fileOn(x, 0, 100)));
        listIs("0 1 2", 0, ALL_HELD);
    }

    private static void goneFromIt() {
        listIs("1 2", 0, LISTED.then(x -> x.strike(0, 0)));
        listIs("0 2", 0, LISTED.then(x -> x.strike(0, 1)));
        listIs("0 1", 0, LISTED.then(x -> x.strike(0, 2)));
        listIs("", 0, LISTED.then(x -> x.strike(0, 2)).then(x -> x.strike(0, 1)).then(x -> x.strike(0, 0)));
        listIs("0 1 2", 0, CARRIED);
        listIs("0 1 2", 0, ALL_HELD.then(x -> x.carry(0, 4, 100)));
        listIs("0 2", 0, APPROVED.then(x -> x.strike(0, 1)).then(x -> x.carry(0, 4, 100)));
        // Struck from one list is not struck from another one.
        listIs("0 1 2", 1, LISTED.then(x -> x.draw(0, 100)).then(x -> x.strike(0, 0)));
    }

    private static void behindItsEnd() {
        edges.gives(-1, LISTED, x -> x.listed(0, 3));
        edges.gives(-1, LISTED, x -> x.listed(0, 63));
        edges.gives(-1, LISTED, x -> x.listed(0, 64));
        edges.gives(-1, LISTED, x -> x.listed(0, Integer.MAX_VALUE));
        edges.gives(-1, LISTED.then(x -> x.strike(0, 0)), x -> x.listed(0, 2));
        Recipe all = () -> Offices.withList(64);
        edges.gives(-1, all, x -> x.listed(0, 64));
        Recipe empty = LISTED.then(x -> x.strike(0, 2)).then(x -> x.strike(0, 1)).then(x -> x.strike(0, 0));
        edges.gives(-1, empty, x -> x.listed(0, 0));
    }

    private static void noSuchList() {
        edges.indexOutside(0, 0, LISTED, (x, list) -> x.listed(list, 0));
        edges.indexOutside(0, 15, SIXTEEN, (x, list) -> x.listed(list, 0));
        edges.index(NEW, x -> x.listed(0, 0));
        edges.index(LISTED, x -> x.listed(1, -1));
    }

    private static void belowZero() {
        for (Recipe recipe : new Recipe[] {LISTED, CARRIED, SIXTEEN}) {
            edges.index(recipe, x -> x.listed(0, -1));
            edges.index(recipe, x -> x.listed(0, Integer.MIN_VALUE));
            edges.gives(0, recipe, x -> x.listed(0, 0));
        }
    }

    private static void howManyHave() {
        edges.gives(1, LISTED, x -> x.approve(0, 1));
        edges.gives(2, ONE_APPROVED, x -> x.approve(0, 2));
        edges.gives(3, APPROVED, x -> x.approve(0, 3));
        lastActIs("9 0 1 0", ONE_APPROVED);
        lastActIs("9 15 3 0", SIXTEEN.then(x -> x.approve(15, 3)));
        // All but the one who drew it up may.
        Recipe all = LISTED.then(x -> {
            for (int officer = 0; officer < 8; officer++) {
                x.officer(officer, 7);
            }
            for (int officer = 1; officer < 7; officer++) {
                edges.is(officer, x.approve(0, officer));
            }
        });
        edges.gives(7, all, x -> x.approve(0, 7));
        edges.gives(100, all, x -> x.count(3));
    }

    private static void approvesNoSuchList() {
        edges.indexOutside(0, 0, LISTED, (x, list) -> x.approve(list, 3));
        edges.indexOutside(0, 15, SIXTEEN, (x, list) -> x.approve(list, 3));
        for (int officer : new int[] {-1, 8, Integer.MIN_VALUE, Integer.MAX_VALUE}) {
            edges.index(LISTED, x -> x.approve(0, officer));
        }
        edges.takes(LISTED.then(x -> x.officer(7, 2)), x -> x.approve(0, 7));
        edges.index(NEW, x -> x.approve(0, 0));
    }

    private static void approvesNoCarriedList() {
        edges.takes(APPROVED, x -> x.approve(0, 3));
        edges.state(CARRIED, x -> x.approve(0, 3));
        edges.state(ALL_HELD.then(x -> x.carry(0, 4, 100)), x -> x.approve(0, 3));
        edges.takes(SIXTEEN.then(x -> x.carry(0, 4, 100)), x -> x.approve(1, 3));
    }

    private static void noRightToApprove() {
        for (int rights = 0; rights < 8; rights++) {
            int each = rights;
            Recipe recipe = LISTED.then(x -> x.officer(5, each));
            if (rights / 2 % 2 == 1) {
                edges.gives(1, recipe, x -> x.approve(0, 5));
            } else {
                edges.state(recipe, x -> x.approve(0, 5));
            }
        }
    }

    private static void drewItUp() {
        Recipe all = LISTED.then(x -> x.officer(0, 7)).then(x -> x.officer(1, 7));
        edges.state(all, x -> x.approve(0, 0));
        edges.state(all.then(x -> x.officer(0, 2)), x -> x.approve(0, 0));
        edges.gives(1, all, x -> x.approve(0, 1));
        Recipe another = all.then(x -> x.draw(1, 100));
        edges.gives(1, another, x -> x.approve(1, 0));
        edges.state(another, x -> x.approve(1, 1));
        edges.state(another, x -> x.approve(0, 0));
        // Who drew it up may carry it out, and so may one who approved it.
        edges.gives(3, APPROVED.then(x -> x.officer(0, 4)), x -> x.carry(0, 0, 100));
        edges.gives(3, APPROVED.then(x -> x.officer(1, 4)), x -> x.carry(0, 1, 100));
    }

    private static void approvedAlready() {
        edges.state(ONE_APPROVED, x -> x.approve(0, 1));
        edges.state(APPROVED, x -> x.approve(0, 1));
        edges.state(APPROVED, x -> x.approve(0, 2));
        edges.state(ONE_APPROVED.then(x -> x.strike(0, 0)), x -> x.approve(0, 1));
        edges.state(ONE_APPROVED.then(x -> x.officer(1, 0)).then(x -> x.officer(1, 2)), x -> x.approve(0, 1));
        edges.gives(1, ONE_APPROVED.then(x -> x.draw(0, 100)), x -> x.approve(1, 1));
    }

    private static void approveInOrder() {
        Recipe noRight = LISTED.then(x -> x.officer(3, 5));
        Recipe drawnByHim = LISTED.then(x -> {
            x.strike(0, 0);
            x.officer(3, 3);
            x.draw(3, 100);
        });
        Recipe already = LISTED.then(x -> x.approve(0, 3));
        new Refusals(edges, (x, n) -> x.approve(n[0], n[1]), 0, 3)
                .index(0, -1, 1, 16)
                .index(1, -1, 8)
                .takenIn(LISTED, APPROVED, LISTED.withActs(399))
                .stateIn(CARRIED, noRight, already, LISTED.withActs(400), CARRIED.withActs(400))
                .check();
        new Refusals(edges, (x, n) -> x.approve(n[0], n[1]), 1, 3)
                .index(0, -1, 2, 16)
                .index(1, -1, 8)
                .stateIn(drawnByHim)
                .check();
    }

    private static void howManyAreLeft() {
        edges.gives(2, LISTED, x -> x.strike(0, 0));
        edges.gives(1, LISTED.then(x -> x.strike(0, 0)), x -> x.strike(0, 2));
        edges.gives(0, LISTED.then(x -> x.strike(0, 0)).then(x -> x.strike(0, 2)), x -> x.strike(0, 1));
        Recipe all = () -> Offices.withList(64);
        edges.gives(63, all, x -> x.strike(0, 0));
        edges.gives(63, all, x -> x.strike(0, 63));
        lastActIs("10 0 63 0", all.then(x -> x.strike(0, 63)));
        lastActIs("10 15 0 0", SIXTEEN.then(x -> x.strike(15, 0)));
        edges.gives(100, LISTED.then(x -> x.strike(0, 0)), x -> x.count(3));
    }

    private static void approvalsStay() {
        Recipe struck = APPROVED.then(x -> x.strike(0, 1));
        edges.gives(2, struck, x -> x.carry(0, 4, 100));
        edges.gives(3, struck, x -> x.approve(0, 3));
        edges.gives(2, ONE_APPROVED.then(x -> x.strike(0, 1)), x -> x.approve(0, 2));
        Recipe empty = struck.then(x -> x.strike(0, 0)).then(x -> x.strike(0, 2));
        edges.gives(0, empty, x -> x.carry(0, 4, 100));
    }

    private static void notOnIt() {
        edges.indexOutside(0, 2, LISTED, (x, record) -> x.strike(0, record));
        edges.indexOutside(0, 0, LISTED, (x, list) -> x.strike(list, 0));
        edges.indexOutside(0, 15, SIXTEEN, (x, list) -> x.strike(list, 0));
        edges.index(LISTED, x -> x.strike(0, 64));
        edges.index(LISTED, x -> x.strike(0, -64));
        edges.index(LISTED.then(x -> x.strike(0, 1)), x -> x.strike(0, 1));
        edges.index(LISTED.then(x -> Offices.fileOn(x, 0, 100)), x -> x.strike(0, 3));
        edges.index(NEW, x -> x.strike(0, 0));
        Recipe all = () -> Offices.withList(64);
        edges.indexOutside(0, 63, all, (x, record) -> x.strike(0, record));
    }

    private static void strikesFromNoCarriedList() {
        edges.takes(APPROVED, x -> x.strike(0, 0));
        edges.state(CARRIED, x -> x.strike(0, 0));
        edges.state(CARRIED, x -> x.strike(0, 2));
        edges.state(ALL_HELD.then(x -> x.carry(0, 4, 100)), x -> x.strike(0, 0));
        // A destroyed record can be struck from another list that is open.
        Recipe two = APPROVED.then(x -> x.draw(0, 100)).then(x -> x.carry(0, 4, 100));
        edges.gives(2, two, x -> x.strike(1, 0));
    }

    private static void strikeInOrder() {
        new Refusals(edges, (x, n) -> x.strike(n[0], n[1]), 0, 1)
                .index(0, -1, 1, 16)
                .index(1, -1, 3, 64)
                .takenIn(LISTED, APPROVED, LISTED.withActs(399))
                .stateIn(CARRIED, LISTED.withActs(400), CARRIED.withActs(400))
                .check();
        Recipe struckBefore = APPROVED.then(x -> x.strike(0, 1)).then(x -> x.carry(0, 4, 100));
        edges.index(struckBefore, x -> x.strike(0, 1));
        edges.state(struckBefore, x -> x.strike(0, 0));
    }

    private static void howManyDestroyed() {
        edges.gives(3, APPROVED, x -> x.carry(0, 4, 100));
        edges.gives(2, APPROVED.then(x -> x.strike(0, 1)), x -> x.carry(0, 4, 100));
        edges.gives(0, ALL_HELD, x -> x.carry(0, 4, 100));
        Recipe all = () -> Offices.withApprovedList(64);
        edges.gives(64, all, x -> x.carry(0, 4, 100));
        edges.gives(63, all.then(x -> x.strike(0, 63)), x -> x.carry(0, 4, 100));
        edges.gives(1, all.then(x -> x.hold(0, -1, -1, -1, 0, 62)), x -> x.carry(0, 4, 100));
        edges.gives(1, all.then(x -> x.hold(0, -1, -1, -1, 0, 62)).then(x -> x.carry(0, 4, 100)), x -> x.record(63, 3));
        // Each is written, in order, and the list behind them.
        RecordsOffice x = all.make();
        int before = x.count(2);
        x.carry(0, 4, 120000);
        for (int record = 0; record < 64; record++) {
            edges.same("11 " + record + " 0 120000", Offices.act(x, before + record));
        }
        edges.same("12 0 120000 0", Offices.act(x, before + 64));
    }

    private static void carriesNoSuchList() {
        edges.indexOutside(0, 0, APPROVED, (x, list) -> x.carry(list, 4, 100));
        edges.index(NEW, x -> x.carry(0, 0, 0));
        edges.index(SIXTEEN, x -> x.carry(16, 4, 100));
        edges.index(APPROVED.then(x -> x.draw(0, 100)), x -> x.carry(2, 4, 100));
        for (int officer : new int[] {-1, 8, Integer.MIN_VALUE, Integer.MAX_VALUE}) {
            edges.index(APPROVED, x -> x.carry(0, officer, 100));
        }
        edges.takes(APPROVED.then(x -> x.officer(7, 4)), x -> x.carry(0, 7, 100));
        edges.takes(APPROVED.then(x -> x.officer(0, 4)), x -> x.carry(0, 0, 100));
    }

    private static void carriesOnNoSuchDay() {
        edges.argumentOutside(100, 120000, APPROVED, (x, day) -> x.carry(0, 4, day));
        edges.argument(APPROVED, x -> x.carry(0, 4, 0));
        edges.argument(APPROVED, x -> x.carry(0, 4, -1));
    }

    private static void carriesNoListTwice() {
        edges.state(CARRIED, x -> x.carry(0, 4, 100));
        edges.state(CARRIED, x -> x.carry(0, 4, 120000));
        edges.state(ALL_HELD.then(x -> x.carry(0, 4, 100)).then(x -> x.lift(0)), x -> x.carry(0, 4, 100));
    }

    private static void fewerThanTwo() {
        edges.state(LISTED, x -> x.carry(0, 4, 100));
        edges.state(ONE_APPROVED, x -> x.carry(0, 4, 100));
        edges.gives(3, APPROVED, x -> x.carry(0, 4, 100));
        edges.gives(3, APPROVED.then(x -> x.approve(0, 3)), x -> x.carry(0, 4, 100));
        edges.state(SIXTEEN, x -> x.carry(1, 4, 100));
    }

    private static void noRightToCarry() {
        for (int rights = 0; rights < 8; rights++) {
            int each = rights;
            Recipe recipe = APPROVED.then(x -> x.officer(5, each));
            if (rights >= 4) {
                edges.gives(3, recipe, x -> x.carry(0, 5, 100));
            } else {
                edges.state(recipe, x -> x.carry(0, 5, 100));
            }
        }
    }

    private static void carryInOrder() {
        Recipe noRight = APPROVED.then(x -> x.officer(4, 3));
        new Refusals(edges, (x, n) -> x.carry(n[0], n[1], n[2]), 0, 4, 100)
                .index(0, -1, 1, 16)
                .index(1, -1, 8)
                .argument(2, -1, 99, 120001)
                .takenIn(APPROVED, ALL_HELD, APPROVED.withActs(396), ALL_HELD.withActs(399))
                .stateIn(LISTED, ONE_APPROVED, CARRIED, noRight, APPROVED.withActs(397), APPROVED.withActs(400),
                        ALL_HELD.withActs(400), CARRIED.withActs(400))
                .check();
    }
}
