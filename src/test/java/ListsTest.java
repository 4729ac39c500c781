/** Promises 16 (draw), 17 (listed), 18 (approve), 19 (strike), 20 (carry). */
public final class ListsTest {
    private static final Check check = new Check();

    public static void main(String[] args) {
        drawsWhatIsDue();
        drawLeavesOutCoveredAndDestroyed();
        listedStaysAsDrawn();
        approves();
        approvalsStay();
        strikes();
        strikesAll();
        carries();
        carrySkips();
        carrySkipsWhatIsDueLaterNow();
        recordOnTwoLists();
        allSixtyFour();
        check.end();
    }

    private static void drawsWhatIsDue() {
        RecordsOffice x = new RecordsOffice();
        x.version(0, 0, 0, 1, false, 0);
        x.version(1, 1, 0, 0, false, 0);
        x.open(0, 0);
        x.open(1, 1);
        x.file(0, 1, 1, -1, -1, -1, 0);
        x.file(1, 1, 1, -1, -1, -1, 0);
        x.file(0, 1, 1, -1, -1, -1, 1);
        x.officer(3, 1);
        check.state(() -> x.draw(3, 30));
        check.is(0, x.draw(3, 31));
        check.same("8 0 31 1", Offices.lastAct(x));
        check.same("0", Offices.list(x, 0));
        check.is(31, x.count(3));
        check.is(1, x.draw(3, 32));
        check.same("0 2", Offices.list(x, 1));
        x.close(1, 32);
        check.is(2, x.draw(3, 32));
        check.same("8 2 32 3", Offices.lastAct(x));
        check.same("0 1 2", Offices.list(x, 2));
        check.is(3, x.count(1));
    }

    private static void drawLeavesOutCoveredAndDestroyed() {
        RecordsOffice x = Offices.withApprovedList(5);
        x.strike(0, 1);
        x.strike(0, 3);
        x.strike(0, 4);
        check.is(2, x.carry(0, 4, 100));
        x.hold(0, -1, -1, 3, 0, 120000);
        check.is(1, x.draw(0, 100));
        check.same("1 4", Offices.list(x, 1));
        x.hold(1, 0, -1, -1, 0, 120000);
        check.state(() -> x.draw(0, 100));
        x.lift(1);
        x.lift(0);
        check.is(2, x.draw(0, 100));
        check.same("1 3 4", Offices.list(x, 2));
    }

    private static void listedStaysAsDrawn() {
        RecordsOffice x = Offices.withApprovedList(4);
        x.hold(0, -1, -1, 2, 0, 120000);
        x.file(0, 1, 1, -1, -1, -1, 100);
        check.same("0 1 2 3", Offices.list(x, 0));
        x.strike(0, 1);
        check.same("0 2 3", Offices.list(x, 0));
        check.is(2, x.carry(0, 4, 100));
        check.same("0 2 3", Offices.list(x, 0));
    }

    private static void approves() {
        RecordsOffice x = Offices.withList(1);
        check.is(1, x.approve(0, 2));
        check.same("9 0 2 0", Offices.lastAct(x));
        check.is(2, x.approve(0, 1));
        check.is(3, x.approve(0, 3));
        check.same("9 0 3 0", Offices.lastAct(x));
        check.is(100, x.count(3));
        x.draw(0, 100);
        check.is(1, x.approve(1, 3));
        check.same("9 1 3 0", Offices.lastAct(x));
    }

    private static void approvalsStay() {
        RecordsOffice x = Offices.withApprovedList(2);
        x.officer(1, 0);
        x.officer(2, 0);
        check.is(1, x.strike(0, 0));
        x.officer(1, 2);
        check.state(() -> x.approve(0, 1));
        check.is(1, x.carry(0, 4, 100));
    }

    private static void strikes() {
        RecordsOffice x = Offices.withList(4);
        check.is(3, x.strike(0, 2));
        check.same("10 0 2 0", Offices.lastAct(x));
        check.same("0 1 3", Offices.list(x, 0));
        check.is(2, x.strike(0, 0));
        check.is(1, x.strike(0, 3));
        check.same("1", Offices.list(x, 0));
        check.is(1, x.draw(0, 100));
        check.same("0 1 2 3", Offices.list(x, 1));
        check.is(3, x.strike(1, 3));
        check.same("1", Offices.list(x, 0));
    }

    private static void strikesAll() {
        RecordsOffice x = Offices.withApprovedList(1);
        check.is(0, x.strike(0, 0));
        check.is(-1, x.listed(0, 0));
        check.is(0, x.carry(0, 4, 100));
        check.same("12 0 100 0", Offices.lastAct(x));
        check.is(0, x.record(0, 3));
    }

    private static void carries() {
        RecordsOffice x = Offices.withApprovedList(3);
        int before = x.count(2);
        check.is(6, x.count(4));
        check.is(3, x.carry(0, 4, 105));
        check.is(before + 4, x.count(2));
        check.same("11 0 0 105", Offices.act(x, before));
        check.same("11 1 0 105", Offices.act(x, before + 1));
        check.same("11 2 0 105", Offices.act(x, before + 2));
        check.same("12 0 105 0", Offices.act(x, before + 3));
        check.is(105, x.count(3));
        check.is(0, x.count(4));
        check.is(3, x.count(0));
        check.is(-1, x.broken());
    }

    private static void carrySkips() {
        RecordsOffice x = Offices.withApprovedList(5);
        x.hold(0, -1, -1, 1, 0, 120000);
        x.strike(0, 2);
        int before = x.count(2);
        check.is(3, x.carry(0, 4, 100));
        check.same("11 0 0 100", Offices.act(x, before));
        check.same("11 3 0 100", Offices.act(x, before + 1));
        check.same("11 4 0 100", Offices.act(x, before + 2));
        check.same("12 0 100 1", Offices.act(x, before + 3));
        check.is(0, x.record(1, 3));
        check.is(0, x.record(2, 3));
        check.is(5, x.count(4));
        check.state(() -> x.carry(0, 4, 100));
    }

    private static void carrySkipsWhatIsDueLaterNow() {
        RecordsOffice x = Offices.withApprovedList(3);
        x.version(0, 0, 0, 3, true, 0);
        // Due on days 90, 91 and 92 now: the list is drawn up, but another one waits for a term yet longer.
        check.is(92, x.due(2));
        x.version(0, 0, 0, 6, false, 1);
        check.is(90, x.due(0));
        check.is(182, x.due(1));
        check.is(1, x.carry(0, 4, 181));
        check.same("12 0 181 2", Offices.lastAct(x));
        check.is(1, x.record(0, 3));
        check.is(0, x.record(1, 3));
    }

    private static void recordOnTwoLists() {
        RecordsOffice x = Offices.withApprovedList(2);
        x.draw(0, 100);
        x.approve(1, 1);
        x.approve(1, 2);
        x.strike(0, 0);
        check.is(1, x.carry(0, 4, 100));
        check.is(1, x.carry(1, 4, 100));
        check.same("12 1 100 1", Offices.lastAct(x));
        check.same("0 1", Offices.list(x, 1));
    }

    private static void allSixtyFour() {
        RecordsOffice x = Offices.withApprovedList(64);
        check.is(63, x.listed(0, 63));
        check.is(-1, x.listed(0, 64));
        check.is(63, x.strike(0, 31));
        check.is(63, x.carry(0, 4, 100));
        check.is(0, x.record(31, 3));
        check.is(1, x.record(63, 3));
        check.is(32, x.count(4));
    }
}
