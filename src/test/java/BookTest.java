/** Promises 21 (count), 22 (act), 23 (link), 24 (spoil), 25 (broken). */
public final class BookTest {
    private static final Check check = new Check();

    public static void main(String[] args) {
        counts();
        dayOfTheOffice();
        links();
        spoils();
        spoiltNumbersAreFound();
        linksGoOnBehindSpoiltActs();
        check.end();
    }

    private static void counts() {
        RecordsOffice x = Offices.withApprovedList(4);
        check.is(4, x.count(0));
        check.is(1, x.count(1));
        check.is(9, x.count(2));
        check.is(100, x.count(3));
        check.is(10, x.count(4));
        x.strike(0, 3);
        x.carry(0, 4, 200);
        check.is(4, x.count(0));
        check.is(1, x.count(1));
        check.is(14, x.count(2));
        check.is(200, x.count(3));
        check.is(4, x.count(4));
    }

    private static void dayOfTheOffice() {
        RecordsOffice x = new RecordsOffice();
        x.version(0, 0, 0, 0, false, 500);
        x.open(0, 0);
        x.hold(0, -1, -1, -1, 600, 700);
        check.is(0, x.count(3));
        x.file(0, 1, 1, -1, -1, -1, 3);
        check.is(3, x.count(3));
        x.lift(0);
        x.left(0, 5);
        check.is(5, x.count(3));
        x.close(0, 8);
        check.is(8, x.count(3));
        x.officer(0, 5);
        x.officer(1, 2);
        x.officer(2, 2);
        x.draw(0, 9);
        x.approve(0, 1);
        x.approve(0, 2);
        x.strike(0, 0);
        check.is(9, x.count(3));
        check.argument(() -> x.carry(0, 0, 8));
        x.carry(0, 0, 11);
        check.is(11, x.count(3));
        check.argument(() -> x.draw(0, 10));
    }

    private static void links() {
        RecordsOffice x = Offices.withApprovedList(3);
        x.hold(2, 3, -1, -1, 0, 0);
        x.lift(2);
        x.strike(0, 1);
        x.close(0, 100);
        x.left(0, 100);
        x.carry(0, 4, 100);
        long before = 0;
        for (int i = 0; i < x.count(2); i++) {
            for (int what = 0; what < 4; what++) {
                before = Links.mix(before, x.act(i, what));
            }
            if (x.act(i, 0) == 5 || x.act(i, 0) == 11) {
                before = Links.mix(before, 1000 + x.act(i, 1));
            }
            check.is(before, x.link(i));
        }
        check.is(-1, x.broken());
    }

    private static void spoils() {
        RecordsOffice x = Offices.withRecords(2);
        long link = x.link(2);
        x.spoil(2, 0, Integer.MIN_VALUE);
        x.spoil(2, 1, -5);
        x.spoil(2, 2, 77);
        x.spoil(2, 3, Integer.MAX_VALUE);
        check.same("-2147483648 -5 77 2147483647", Offices.act(x, 2));
        check.same("5 1 0 1", Offices.act(x, 3));
        check.is(link, x.link(2));
        check.is(4, x.count(2));
    }

    private static void spoiltNumbersAreFound() {
        RecordsOffice x = Offices.withRecords(5);
        for (int i = 0; i < x.count(2); i++) {
            for (int what = 0; what < 4; what++) {
                int old = x.act(i, what);
                x.spoil(i, what, old + 1);
                check.is(i, x.broken());
                x.spoil(i, what, old);
                check.is(-1, x.broken());
            }
        }
        x.spoil(4, 1, 9);
        x.spoil(2, 1, 9);
        check.is(2, x.broken());
        x.spoil(2, 1, 0);
        check.is(4, x.broken());
        x.spoil(4, 1, 2);
        check.is(-1, x.broken());
    }

    private static void linksGoOnBehindSpoiltActs() {
        RecordsOffice x = Offices.withRecords(1);
        RecordsOffice y = Offices.withRecords(1);
        x.spoil(2, 3, 50);
        x.hold(0, -1, -1, -1, 0, 0);
        y.hold(0, -1, -1, -1, 0, 0);
        check.is(y.link(3), x.link(3));
        check.is(2, x.broken());
        x.spoil(2, 3, 0);
        check.is(-1, x.broken());
    }
}
