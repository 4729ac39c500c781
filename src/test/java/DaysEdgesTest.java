import java.time.LocalDate;
import java.time.temporal.ChronoUnit;

/** The boundary cases of days, terms, classes and versions, as the document's "Terms" name them. */
public final class DaysEdgesTest {
    private static final Edges edges = new Edges();
    private static final Recipe NEW = RecordsOffice::new;
    private static final Recipe DAY_ZERO = Offices::onDayZero;

    public static void main(String[] args) {
        edges.promise("Terms, days");
        edges.sentence("DAYS are whole numbers from 0 on, 0 being 1 January 1900, to 120000", DaysEdgesTest::daysOfCalls);
        edges.sentence("0 being 1 January 1900", DaysEdgesTest::dayZero);
        edges.sentence("to 120000", DaysEdgesTest::termsBehindTheLastDay);
        edges.sentence("years that 4 divides are leap years, but not those that 100 divides, unless 400 does",
                DaysEdgesTest::leapYears);
        edges.sentence("A TERM is years 0 .. 100 and months 0 .. 11", DaysEdgesTest::terms);
        edges.sentence("the day of the same number in the month so much later", DaysEdgesTest::sameNumber);
        edges.sentence("the last day of that month, if it has not so many", DaysEdgesTest::lastOfMonth);

        edges.promise("Terms, classes");
        edges.sentence("CLASSES 0 .. 7", DaysEdgesTest::classes);
        edges.sentence("VERSIONS (6 at most)", DaysEdgesTest::sixVersions);
        edges.sentence("0 the day when the record is FILED", DaysEdgesTest::dueByFiling);
        edges.sentence("1 the day when its folder is CLOSED", DaysEdgesTest::dueByClosing);
        edges.sentence("2 the day when the folder's PERSON LEFT", DaysEdgesTest::dueByLeaving);
        edges.sentence("3 the last day of the fiscal year in which it was FILED", DaysEdgesTest::dueByFiscalYear);
        edges.sentence("which begins on the first day of a month, January at first", DaysEdgesTest::eachFiscalMonth);
        edges.sentence("the last one whose first day is not behind it", DaysEdgesTest::lastNotBehind);
        edges.sentence("For an event's day", DaysEdgesTest::versionByEventsDay);
        edges.sentence("(the first one, if there is none)", DaysEdgesTest::firstIfNone);
        edges.sentence("or the last one behind that one which is FOR ALL", DaysEdgesTest::forAll);
        edges.end();
    }

    private static int day(int year, int month, int day) {
        return (int) ChronoUnit.DAYS.between(LocalDate.of(1900, 1, 1), LocalDate.of(year, month, day));
    }

    private static void laterIs(int want, int day, int years, int months) {
        edges.gives(want, NEW, x -> x.later(day, years, months));
    }

    private static void daysOfCalls() {
        edges.is(0, DAY_ZERO.make().count(3));
        edges.argumentOutside(0, 120000, DAY_ZERO, (x, day) -> x.close(0, day));
        edges.argumentOutside(0, 120000, DAY_ZERO, (x, day) -> x.left(0, day));
        edges.argumentOutside(0, 120000, DAY_ZERO, (x, day) -> x.file(0, 1, 1, -1, -1, -1, day));
        edges.argumentOutside(0, 120000, DAY_ZERO, (x, day) -> x.draw(0, day));
        edges.argumentOutside(0, 120000, DAY_ZERO, (x, day) -> x.carry(0, 0, day));
        edges.argumentOutside(0, 120000, DAY_ZERO, (x, day) -> x.version(0, 0, 0, 0, false, day));
        edges.argumentOutside(0, 120000, DAY_ZERO, (x, day) -> x.version(1, 0, 0, 0, false, day));
        edges.argumentOutside(0, 120000, DAY_ZERO, (x, day) -> x.hold(0, -1, -1, -1, day, 120000));
        edges.argumentOutside(0, 120000, DAY_ZERO, (x, day) -> x.hold(0, -1, -1, -1, 0, day));
        edges.argumentOutside(0, 120000, DAY_ZERO, (x, day) -> x.later(day, 0, 0));
    }

    private static void dayZero() {
        laterIs(0, 0, 0, 0);
        laterIs(31, 0, 0, 1);
        laterIs(59, 0, 0, 2);
        laterIs(334, 0, 0, 11);
        laterIs(365, 0, 1, 0);
        laterIs(36524, 0, 100, 0);
        laterIs(36524 + 335, 0, 100, 11);
    }

    /** Day 120000 is 20 July 2228; what a term leads to may lie behind it. */
    private static void termsBehindTheLastDay() {
        edges.is(day(2228, 7, 20), 120000);
        laterIs(120000, 120000, 0, 0);
        laterIs(120031, 120000, 0, 1);
        laterIs(120365, 120000, 1, 0);
        laterIs(day(2329, 6, 20), 120000, 100, 11);
        Recipe longTerm = () -> {
            RecordsOffice x = new RecordsOffice();
            x.version(0, 0, 100, 11, false, 120000);
            x.open(0, 0);
            x.file(0, 1, 1, -1, -1, -1, 120000);
            x.officer(0, 7);
            return x;
        };
        edges.gives(day(2329, 6, 20), longTerm, x -> x.due(0));
        edges.state(longTerm, x -> x.draw(0, 120000));
    }

    private static void leapYears() {
        for (int year : new int[] {1904, 1908, 1996, 2000, 2004, 2096, 2104, 2196, 2204, 2228}) {
            laterIs(day(year, 2, 29), day(year, 1, 31), 0, 1);
            laterIs(day(year, 2, 29) + 1, day(year, 2, 1), 0, 1);
        }
        for (int year : new int[] {1900, 1901, 1902, 1903, 1999, 2001, 2099, 2100, 2101, 2200, 2201, 2227}) {
            laterIs(day(year, 2, 28), day(year, 1, 31), 0, 1);
            laterIs(day(year, 2, 28) + 1, day(year, 2, 1), 0, 1);
        }
        laterIs(58, 30, 0, 1);
        laterIs(1519, 1490, 0, 1);
        laterIs(36583, 36554, 0, 1);
        laterIs(73107, 73079, 0, 1);
        // Behind the last day too: 2300 is no leap year, 2304 and 2328 are.
        laterIs(day(2300, 2, 28), day(2228, 2, 29), 72, 0);
        laterIs(day(2304, 2, 29), day(2228, 2, 29), 76, 0);
        laterIs(day(2328, 2, 29), day(2228, 2, 29), 100, 0);
    }

    private static void terms() {
        edges.argumentOutside(0, 100, DAY_ZERO, (x, years) -> x.later(0, years, 0));
        edges.argumentOutside(0, 100, DAY_ZERO, (x, years) -> x.later(0, years, 11));
        edges.argumentOutside(0, 11, DAY_ZERO, (x, months) -> x.later(0, 0, months));
        edges.argumentOutside(0, 11, DAY_ZERO, (x, months) -> x.later(0, 100, months));
        edges.argumentOutside(0, 100, DAY_ZERO, (x, years) -> x.version(0, 0, years, 0, false, 0));
        edges.argumentOutside(0, 11, DAY_ZERO, (x, months) -> x.version(0, 0, 0, months, false, 0));
    }

    private static void sameNumber() {
        laterIs(day(1901, 1, 1), day(1900, 12, 1), 0, 1);
        laterIs(day(1901, 1, 31), day(1900, 12, 31), 0, 1);
        laterIs(day(1901, 11, 1), day(1900, 12, 1), 0, 11);
        laterIs(day(1900, 12, 15), day(1900, 1, 15), 0, 11);
        // The last day of a month does not lead to the last one, but to that of its number.
        laterIs(day(1900, 3, 28), day(1900, 2, 28), 0, 1);
        laterIs(day(1904, 3, 29), day(1904, 2, 29), 0, 1);
        laterIs(day(1904, 2, 28), day(1903, 2, 28), 1, 0);
        laterIs(day(1900, 5, 30), day(1900, 4, 30), 0, 1);
        laterIs(day(1900, 8, 31), day(1900, 7, 31), 0, 1);
        laterIs(day(1908, 2, 29), day(1904, 2, 29), 4, 0);
    }

    private static void lastOfMonth() {
        laterIs(day(1901, 2, 28), day(1901, 1, 28), 0, 1);
        laterIs(day(1901, 2, 28), day(1901, 1, 29), 0, 1);
        laterIs(day(1901, 2, 28), day(1901, 1, 30), 0, 1);
        laterIs(day(1901, 2, 28), day(1901, 1, 31), 0, 1);
        laterIs(day(1904, 2, 28), day(1904, 1, 28), 0, 1);
        laterIs(day(1904, 2, 29), day(1904, 1, 29), 0, 1);
        laterIs(day(1904, 2, 29), day(1904, 1, 30), 0, 1);
        laterIs(day(1904, 2, 29), day(1904, 1, 31), 0, 1);
        laterIs(day(1900, 4, 30), day(1900, 3, 31), 0, 1);
        laterIs(day(1900, 6, 30), day(1900, 5, 31), 0, 1);
        laterIs(day(1900, 9, 30), day(1900, 8, 31), 0, 1);
        laterIs(day(1900, 11, 30), day(1900, 10, 31), 0, 1);
        laterIs(day(1901, 2, 28), day(1900, 12, 31), 0, 2);
        laterIs(day(1901, 11, 30), day(1900, 12, 31), 0, 11);
        laterIs(day(1905, 2, 28), day(1904, 2, 29), 1, 0);
        laterIs(day(2000, 2, 29), day(1904, 2, 29), 96, 0);
        laterIs(day(2100, 2, 28), day(2000, 2, 29), 100, 0);
        laterIs(day(2101, 1, 29), day(2000, 2, 29), 100, 11);
    }

    private static void classes() {
        Recipe all = NEW.then(x -> {
            for (int cls = 0; cls < 8; cls++) {
                x.version(cls, 0, 0, 0, false, 0);
            }
        });
        edges.indexOutside(0, 7, NEW, (x, cls) -> x.version(cls, 0, 0, 0, false, 0));
        edges.indexOutside(0, 7, all, (x, cls) -> x.open(0, cls));
        edges.indexOutside(-1, 7, NEW, (x, cls) -> x.hold(0, -1, cls, -1, 0, 0));
        edges.gives(2, all, x -> x.version(0, 0, 0, 0, false, 0));
        edges.gives(2, all, x -> x.version(7, 0, 0, 0, false, 0));
    }

    private static void sixVersions() {
        Recipe five = NEW.then(x -> {
            for (int i = 1; i <= 5; i++) {
                edges.is(i, x.version(7, 0, i, 0, false, 10 * i));
            }
        });
        edges.gives(6, five, x -> x.version(7, 0, 6, 0, false, 50));
        Recipe six = five.then(x -> x.version(7, 0, 6, 0, false, 60));
        edges.state(six, x -> x.version(7, 0, 7, 0, false, 70));
        edges.state(six, x -> x.version(7, 0, 7, 0, true, 60));
        // Each class has six of its own, and all six of them count.
        edges.gives(1, six, x -> x.version(6, 0, 7, 0, false, 0));
        Recipe filed = six.then(x -> {
            x.open(0, 7);
            for (int day = 9; day <= 60; day++) {
                Offices.fileOn(x, 0, day);
            }
        });
        for (int day = 9; day <= 60; day++) {
            int each = day;
            int years = Math.max(1, day / 10);
            edges.gives(NEW.make().later(day, years, 0), filed, x -> x.due(each - 9));
        }
    }

    private static void dueByFiling() {
        Recipe filed = NEW.then(x -> {
            x.version(0, 0, 0, 1, false, 0);
            x.open(0, 0);
            Offices.fileOn(x, 0, 0);
            Offices.fileOn(x, 0, 120000);
        });
        edges.gives(31, filed, x -> x.due(0));
        edges.gives(120031, filed, x -> x.due(1));
        Recipe closedAndLeft = filed.then(x -> x.close(0, 120000)).then(x -> x.left(0, 120000));
        edges.gives(31, closedAndLeft, x -> x.due(0));
        Recipe onTheSpot = () -> Offices.withEvent(0);
        edges.gives(0, onTheSpot.then(x -> Offices.fileOn(x, 0, 0)), x -> x.due(0));
    }

    private static void dueByClosing() {
        Recipe filed = NEW.then(x -> {
            x.version(0, 1, 0, 1, false, 0);
            x.open(0, 0);
            x.open(1, 0);
            Offices.fileOn(x, 0, 0);
            Offices.fileOn(x, 1, 0);
        });
        edges.gives(-1, filed, x -> x.due(0));
        edges.gives(-1, filed.then(x -> x.left(0, 5)), x -> x.due(0));
        edges.gives(31, filed.then(x -> x.close(0, 0)), x -> x.due(0));
        edges.gives(-1, filed.then(x -> x.close(0, 0)), x -> x.due(1));
        edges.gives(120031, filed.then(x -> x.close(0, 120000)), x -> x.due(0));
        edges.gives(58, filed.then(x -> x.close(0, 30)).then(x -> x.left(0, 31)), x -> x.due(0));
    }

    private static void dueByLeaving() {
        Recipe filed = NEW.then(x -> {
            x.version(0, 2, 0, 1, false, 0);
            x.open(0, 0);
            x.open(1, 0);
            Offices.fileOn(x, 0, 0);
            Offices.fileOn(x, 1, 0);
        });
        edges.gives(-1, filed, x -> x.due(0));
        edges.gives(-1, filed.then(x -> x.close(0, 5)), x -> x.due(0));
        edges.gives(31, filed.then(x -> x.left(0, 0)), x -> x.due(0));
        edges.gives(-1, filed.then(x -> x.left(0, 0)), x -> x.due(1));
        edges.gives(120031, filed.then(x -> x.left(0, 120000)), x -> x.due(0));
        edges.gives(59, filed.then(x -> x.close(0, 30)).then(x -> x.left(0, 31)), x -> x.due(0));
        // The event may have been before the record was: it is due on the day it is filed, and before.
        Recipe filedBehind = filed.then(x -> x.left(0, 31)).then(x -> Offices.fileOn(x, 0, 500));
        edges.gives(59, filedBehind, x -> x.due(2));
    }

    private static void fiscalEndIs(int want, int month, int filed) {
        Recipe recipe = () -> Offices.withEvent(3);
        Recipe set = recipe.then(x -> x.fiscal(month)).then(x -> Offices.fileOn(x, 0, filed));
        edges.gives(want, set, x -> x.due(0));
    }

    private static void dueByFiscalYear() {
        fiscalEndIs(day(1900, 12, 31), 1, day(1900, 1, 1));
        fiscalEndIs(day(1900, 12, 31), 1, day(1900, 12, 31));
        fiscalEndIs(day(1901, 12, 31), 1, day(1901, 1, 1));
        fiscalEndIs(day(1904, 12, 31), 1, day(1904, 12, 31));
        // In March it begins, so it ends with February, which has 29 days in leap years.
        fiscalEndIs(day(1900, 2, 28), 3, day(1900, 2, 28));
        fiscalEndIs(day(1901, 2, 28), 3, day(1900, 3, 1));
        fiscalEndIs(day(1904, 2, 29), 3, day(1903, 3, 1));
        fiscalEndIs(day(1904, 2, 29), 3, day(1904, 2, 28));
        fiscalEndIs(day(1904, 2, 29), 3, day(1904, 2, 29));
        fiscalEndIs(day(1905, 2, 28), 3, day(1904, 3, 1));
        fiscalEndIs(day(2000, 2, 29), 3, day(2000, 2, 29));
        fiscalEndIs(day(2100, 2, 28), 3, day(2100, 2, 28));
        fiscalEndIs(day(2101, 2, 28), 3, day(2100, 3, 1));
        // The last one may end behind the last day.
        fiscalEndIs(day(2228, 7, 31), 8, 120000);
        fiscalEndIs(day(2229, 6, 30), 7, 120000);
        Recipe term = NEW.then(x -> {
            x.version(0, 3, 0, 2, false, 0);
            x.open(0, 0);
            Offices.fileOn(x, 0, 0);
        });
        edges.gives(day(1901, 2, 28), term, x -> x.due(0));
    }

    private static void eachFiscalMonth() {
        Recipe never = () -> Offices.withEvent(3);
        edges.gives(364, never.then(x -> Offices.fileOn(x, 0, 0)), x -> x.due(0));
        edges.gives(364, never.then(x -> Offices.fileOn(x, 0, 364)), x -> x.due(0));
        for (int month = 1; month <= 12; month++) {
            int first = day(1950, month, 1);
            int next = day(1951, month, 1);
            fiscalEndIs(first - 1, month, first - 1);
            fiscalEndIs(next - 1, month, first);
            fiscalEndIs(next - 1, month, next - 1);
            fiscalEndIs(day(1952, month, 1) - 1, month, next);
        }
        fiscalEndIs(30, 2, 0);
        fiscalEndIs(333, 12, 0);
    }

    private static void lastNotBehind() {
        Recipe three = NEW.then(x -> {
            x.version(0, 0, 1, 0, false, 100);
            x.version(0, 0, 2, 0, false, 200);
            x.version(0, 0, 3, 0, false, 300);
            x.open(0, 0);
        });
        int[][] daysAndYears = {
            {100, 1}, {101, 1}, {199, 1}, {200, 2}, {201, 2}, {299, 2}, {300, 3}, {301, 3}, {120000, 3},
        };
        for (int[] each : daysAndYears) {
            int due = NEW.make().later(each[0], each[1], 0);
            edges.gives(due, three.then(x -> Offices.fileOn(x, 0, each[0])), x -> x.due(0));
        }
        // Of versions with one first day it is the last one.
        Recipe sameDay = three.then(x -> x.version(0, 0, 4, 0, false, 300));
        edges.gives(NEW.make().later(300, 4, 0), sameDay.then(x -> Offices.fileOn(x, 0, 300)), x -> x.due(0));
        edges.gives(NEW.make().later(299, 2, 0), sameDay.then(x -> Offices.fileOn(x, 0, 299)), x -> x.due(0));
    }

    /** Filed on day 10 under versions from days 0 and 364 (31 December 1900): the event's day tells which. */
    private static void versionByEventsDay() {
        for (int event = 0; event < 4; event++) {
            int each = event;
            Recipe filed = NEW.then(x -> {
                x.version(0, each, 1, 0, false, 0);
                x.version(0, each, 2, 0, false, 364);
                x.open(0, 0);
                Offices.fileOn(x, 0, 10);
            });
            Recipe before = filed.then(x -> x.close(0, 363)).then(x -> x.left(0, 363));
            Recipe on = filed.then(x -> x.close(0, 364)).then(x -> x.left(0, 364));
            boolean isDay = event == 1 || event == 2;
            edges.gives(isDay ? 363 + 365 : event == 0 ? 10 + 365 : 364 + 730, before, x -> x.due(0));
            edges.gives(event == 0 ? 10 + 365 : 364 + 730, on, x -> x.due(0));
        }
    }

    private static void firstIfNone() {
        Recipe two = NEW.then(x -> {
            x.version(0, 0, 1, 0, false, 100);
            x.version(0, 0, 2, 0, false, 120000);
            x.open(0, 0);
        });
        edges.gives(365, two.then(x -> Offices.fileOn(x, 0, 0)), x -> x.due(0));
        edges.gives(99 + 365, two.then(x -> Offices.fileOn(x, 0, 99)), x -> x.due(0));
        edges.gives(NEW.make().later(119999, 1, 0), two.then(x -> Offices.fileOn(x, 0, 119999)), x -> x.due(0));
        edges.gives(NEW.make().later(120000, 2, 0), two.then(x -> Offices.fileOn(x, 0, 120000)), x -> x.due(0));
    }

    /** Versions from days 100, 200, 300, 400, 500, 600 with terms of 1 to 6 years, some of them for all. */
    private static Recipe versions(String forAll) {
        return NEW.then(x -> {
            for (int i = 0; i < 6; i++) {
                x.version(0, 0, i + 1, 0, forAll.charAt(i) == 'A', 100 * (i + 1));
            }
            x.open(0, 0);
        });
    }

    private static void termsAre(String years, String forAll) {
        Recipe recipe = versions(forAll);
        int[] days = {0, 99, 100, 199, 200, 299, 300, 399, 400, 499, 500, 599, 600, 120000};
        for (int i = 0; i < days.length; i++) {
            int day = days[i];
            int due = NEW.make().later(day, years.charAt(i) - '0', 0);
            edges.gives(due, recipe.then(x -> Offices.fileOn(x, 0, day)), x -> x.due(0));
        }
    }

    private static void forAll() {
        termsAre("11112233445566", "------");
        // The first one for all, or one that is not behind, changes nothing.
        termsAre("11112233445566", "A-----");
        termsAre("22222233445566", "-A----");
        termsAre("44444444445566", "-A-A--");
        termsAre("55555555555566", "AAAAA-");
        termsAre("66666666666666", "-----A");
        termsAre("66666666666666", "AAAAAA");
        // Those of the same first day stand behind one another too.
        Recipe sameDay = NEW.then(x -> {
            x.version(0, 0, 1, 0, false, 100);
            x.version(0, 0, 2, 0, true, 100);
            x.version(0, 0, 3, 0, false, 100);
            x.open(0, 0);
        });
        edges.gives(99 + 730, sameDay.then(x -> Offices.fileOn(x, 0, 99)), x -> x.due(0));
        edges.gives(100 + 1095, sameDay.then(x -> Offices.fileOn(x, 0, 100)), x -> x.due(0));
    }
}
