/** Promises 21 (count), 22 (act), 23 (link), 24 (spoil), 25 (broken), and the room in the book. */
public final class BookTest {
    private static final Check check = new Check();
    private static final long FACTOR = 7046029254386353131L;

    public static void main(String[] args) {
        countRefusals();
        counts();
        dayOfTheOffice();
        actRefusals();
        links();
        linkRefusals();
        spoilRefusals();
        spoils();
        spoiltNumbersAreFound();
        spoiltKindTakesTheDigestInOrOut();
        spoiltRecordNumberTakesTheOtherDigest();
        digestOfARecordThatComesLater();
        linksGoOnBehindSpoiltActs();
        spoilChangesNothingElse();
        fourHundredAtMost();
        everyCallNeedsRoom();
        everyCallTakesTheLastRoom();
        carryNeedsRoomForAll();
        check.end();
    }

    private static long mix(long x, long it) {
        long y = (x ^ it) * FACTOR;
        return y ^ (y >>> 29);
    }

    private static void countRefusals() {
        RecordsOffice x = Offices.withRecords(1);
        check.argument(x, () -> x.count(-1));
        check.argument(x, () -> x.count(5));
    }

    private static void counts() {
        RecordsOffice x = Offices.withApprovedList(4);
        check.is(4, x.count(0));
        check.is(1, x.count(1));
        check.is(9, x.count(2));
        check.is(100, x.count(3));
        check.is(10, x.count(4));
        x.strike(0, 3);
        x.carry(0, 4, 200);
        check.is(4, x.count(0));
        check.is(1, x.count(1));
        check.is(14, x.count(2));
        check.is(200, x.count(3));
        check.is(4, x.count(4));
    }

    private static void dayOfTheOffice() {
        RecordsOffice x = new RecordsOffice();
        x.version(0, 0, 0, 0, false, 500);
        x.open(0, 0);
        x.hold(0, -1, -1, -1, 600, 700);
        check.is(0, x.count(3));
        x.file(0, 1, 1, -1, -1, -1, 3);
        check.is(3, x.count(3));
        x.lift(0);
        x.left(0, 5);
        check.is(5, x.count(3));
        x.close(0, 8);
        check.is(8, x.count(3));
        x.officer(0, 5);
        x.officer(1, 2);
        x.officer(2, 2);
        x.draw(0, 9);
        x.approve(0, 1);
        x.approve(0, 2);
        x.strike(0, 0);
        check.is(9, x.count(3));
        check.argument(x, () -> x.carry(0, 0, 8));
        x.carry(0, 0, 11);
        check.is(11, x.count(3));
        check.argument(x, () -> x.draw(0, 10));
    }

    private static void actRefusals() {
        RecordsOffice x = Offices.withRecords(1);
        check.index(x, () -> x.act(-1, 0));
        check.index(x, () -> x.act(3, 0));
        check.index(x, () -> x.act(400, 0));
        check.index(x, () -> x.act(3, 4));
        check.argument(x, () -> x.act(0, -1));
        check.argument(x, () -> x.act(0, 4));
    }

    private static void links() {
        RecordsOffice x = Offices.withApprovedList(3);
        x.hold(2, 3, -1, -1, 0, 0);
        x.lift(2);
        x.strike(0, 1);
        x.close(0, 100);
        x.left(0, 100);
        x.carry(0, 4, 100);
        long before = 0;
        for (int i = 0; i < x.count(2); i++) {
            for (int what = 0; what < 4; what++) {
                before = mix(before, x.act(i, what));
            }
            if (x.act(i, 0) == 5 || x.act(i, 0) == 11) {
                before = mix(before, 1000 + x.act(i, 1));
            }
            check.is(before, x.link(i));
        }
        check.is(-1, x.broken());
    }

    private static void linkRefusals() {
        RecordsOffice x = Offices.withRecords(1);
        check.index(x, () -> x.link(-1));
        check.index(x, () -> x.link(3));
        check.index(x, () -> x.link(Integer.MAX_VALUE));
    }

    private static void spoilRefusals() {
        RecordsOffice x = Offices.withRecords(1);
        check.index(x, () -> x.spoil(-1, 0, 7));
        check.index(x, () -> x.spoil(3, 0, 7));
        check.index(x, () -> x.spoil(3, 4, 7));
        check.argument(x, () -> x.spoil(0, -1, 7));
        check.argument(x, () -> x.spoil(0, 4, 7));
    }

    private static void spoils() {
        RecordsOffice x = Offices.withRecords(2);
        long link = x.link(2);
        x.spoil(2, 0, Integer.MIN_VALUE);
        x.spoil(2, 1, -5);
        x.spoil(2, 2, 77);
        x.spoil(2, 3, Integer.MAX_VALUE);
        check.same("-2147483648 -5 77 2147483647", Offices.act(x, 2));
        check.same("5 1 0 1", Offices.act(x, 3));
        check.is(link, x.link(2));
        check.is(4, x.count(2));
    }

    private static void spoiltNumbersAreFound() {
        RecordsOffice x = Offices.withRecords(5);
        for (int i = 0; i < x.count(2); i++) {
            for (int what = 0; what < 4; what++) {
                int old = x.act(i, what);
                x.spoil(i, what, old + 1);
                check.is(i, x.broken());
                x.spoil(i, what, old);
                check.is(-1, x.broken());
            }
        }
        x.spoil(4, 1, 9);
        x.spoil(2, 1, 9);
        check.is(2, x.broken());
        x.spoil(2, 1, 0);
        check.is(4, x.broken());
        x.spoil(4, 1, 2);
        check.is(-1, x.broken());
    }

    /** The link is as if no digest were in it, when the digest is one that leaves the mixed number alone. */
    private static void spoiltKindTakesTheDigestInOrOut() {
        RecordsOffice x = new RecordsOffice();
        x.version(0, 0, 0, 0, false, 0);
        x.open(0, 0);
        long before = x.link(1);
        long mixed = mix(mix(mix(mix(before, 5), 0), 0), 0);
        // A digest with which mixing gives what kind 7, without one, would give.
        long seven = mix(mix(mix(mix(before, 7), 0), 0), 0);
        x.file(0, 1, mixed ^ unmix(seven), -1, -1, -1, 0);
        check.is(seven, x.link(2));
        check.is(-1, x.broken());
        x.spoil(2, 0, 7);
        check.is(-1, x.broken());
        x.spoil(2, 0, 8);
        check.is(2, x.broken());
        // Kind 11 has a digest too.
        x.spoil(2, 0, 11);
        check.is(2, x.broken());
    }

    /** What has to stand before the multiplication so that mixing gives z. */
    private static long unmix(long z) {
        long y = z;
        for (int i = 0; i < 3; i++) {
            y = z ^ (y >>> 29);
        }
        long inverse = FACTOR;
        for (int i = 0; i < 6; i++) {
            inverse *= 2 - FACTOR * inverse;
        }
        return y * inverse;
    }

    private static void spoiltRecordNumberTakesTheOtherDigest() {
        for (int other : new int[] {1, 2, -1, 64, Integer.MIN_VALUE}) {
            RecordsOffice x = new RecordsOffice();
            x.version(0, 0, 0, 0, false, 0);
            x.open(0, 0);
            long told = mix(mix(mix(mix(x.link(1), 5), 0), 0), 0);
            long spoilt = mix(mix(mix(mix(x.link(1), 5), other), 0), 0);
            long digestOfOther = other == 1 ? 4711 : 0;
            // With this digest of record 0 the link is right for the other number and the other digest.
            x.file(0, 1, told ^ spoilt ^ digestOfOther, -1, -1, -1, 0);
            x.file(0, 1, 4711, -1, -1, -1, 0);
            check.is(-1, x.broken());
            x.spoil(2, 1, other);
            check.is(-1, x.broken());
            x.spoil(2, 1, other == 1 ? 2 : 1);
            check.is(2, x.broken());
        }
    }

    private static void digestOfARecordThatComesLater() {
        RecordsOffice x = new RecordsOffice();
        x.version(0, 0, 0, 0, false, 0);
        x.open(0, 0);
        long told = mix(mix(mix(mix(x.link(1), 5), 0), 0), 0);
        long spoilt = mix(mix(mix(mix(x.link(1), 5), 1), 0), 0);
        x.file(0, 1, told ^ spoilt, -1, -1, -1, 0);
        x.spoil(2, 1, 1);
        check.is(-1, x.broken());
        x.file(0, 1, 99, -1, -1, -1, 0);
        check.is(2, x.broken());
    }

    private static void linksGoOnBehindSpoiltActs() {
        RecordsOffice x = Offices.withRecords(1);
        RecordsOffice y = Offices.withRecords(1);
        x.spoil(2, 3, 50);
        x.hold(0, -1, -1, -1, 0, 0);
        y.hold(0, -1, -1, -1, 0, 0);
        check.is(y.link(3), x.link(3));
        check.is(2, x.broken());
        x.spoil(2, 3, 0);
        check.is(-1, x.broken());
    }

    private static void spoilChangesNothingElse() {
        RecordsOffice x = Offices.withList(3);
        for (int i = 0; i < x.count(2); i++) {
            for (int what = 0; what < 4; what++) {
                x.spoil(i, what, 119999);
            }
        }
        check.is(100, x.count(3));
        check.is(3, x.count(0));
        check.is(6, x.count(4));
        check.is(1002, x.read(2));
        check.is(2, x.due(2));
        check.same("0 1 2", Offices.list(x, 0));
        check.is(3, x.file(0, 1, 1, -1, -1, -1, 100));
    }

    private static void fourHundredAtMost() {
        RecordsOffice x = Offices.withRecords(1);
        Offices.fillBook(x, 399);
        check.is(1, x.file(0, 1, 1, -1, -1, -1, 5));
        check.is(400, x.count(2));
        check.is(5, x.act(399, 0));
        check.index(x, () -> x.act(400, 0));
        check.index(x, () -> x.link(400));
        check.is(-1, x.broken());
        x.spoil(399, 3, 4);
        check.is(399, x.broken());
    }

    private static void everyCallNeedsRoom() {
        RecordsOffice x = Offices.withApprovedList(3);
        x.hold(1, -1, -1, -1, 50, 50);
        Offices.fillBook(x, 400);
        check.state(x, () -> x.version(0, 0, 0, 0, false, 0));
        check.state(x, () -> x.open(1, 0));
        check.state(x, () -> x.close(0, 100));
        check.state(x, () -> x.left(0, 100));
        check.state(x, () -> x.file(0, 1, 1, -1, -1, -1, 100));
        check.state(x, () -> x.hold(2, -1, -1, -1, 0, 0));
        check.state(x, () -> x.lift(1));
        check.state(x, () -> x.draw(0, 100));
        check.state(x, () -> x.approve(0, 3));
        check.state(x, () -> x.strike(0, 0));
        check.state(x, () -> x.carry(0, 4, 100));
        namedFirstWithoutRoom(x);
        x.officer(0, 7);
    }

    private static void namedFirstWithoutRoom(RecordsOffice x) {
        check.index(x, () -> x.version(8, 0, 0, 0, false, 0));
        check.argument(x, () -> x.version(0, 1, 0, 0, false, 0));
        check.index(x, () -> x.open(16, 0));
        check.argument(x, () -> x.close(0, 99));
        check.argument(x, () -> x.left(0, 99));
        check.argument(x, () -> x.file(0, 0, 1, -1, -1, -1, 100));
        check.argument(x, () -> x.hold(2, -1, -1, 100, 0, 0));
        check.index(x, () -> x.lift(8));
        check.argument(x, () -> x.draw(0, 99));
        check.index(x, () -> x.approve(0, 8));
        check.index(x, () -> x.strike(0, 3));
        check.argument(x, () -> x.carry(0, 4, 99));
    }

    interface Writing {
        void on(RecordsOffice x);
    }

    private static void everyCallTakesTheLastRoom() {
        Writing[] all = {
            x -> x.version(0, 0, 0, 0, false, 0),
            x -> x.open(1, 0),
            x -> x.close(0, 100),
            x -> x.left(0, 100),
            x -> x.file(0, 1, 1, -1, -1, -1, 100),
            x -> x.hold(2, -1, -1, -1, 0, 0),
            x -> x.lift(1),
            x -> x.draw(0, 100),
            x -> x.approve(0, 3),
            x -> x.strike(0, 0),
            x -> x.carry(1, 4, 100),
        };
        for (int i = 0; i < all.length; i++) {
            RecordsOffice x = Offices.withApprovedList(1);
            x.draw(0, 100);
            x.approve(1, 1);
            x.approve(1, 2);
            x.strike(1, 0);
            x.hold(1, -1, -1, -1, 50, 50);
            Offices.fillBook(x, 399);
            all[i].on(x);
            check.is(400, x.count(2));
            check.is(i == 10 ? 12 : i + 1, x.act(399, 0));
        }
    }

    private static void carryNeedsRoomForAll() {
        RecordsOffice x = Offices.withApprovedList(4);
        x.hold(0, -1, -1, 3, 0, 120000);
        Offices.fillBook(x, 397);
        check.state(x, () -> x.carry(0, 4, 110));
        check.is(2, x.act(1, 0));
        RecordsOffice y = Offices.withApprovedList(4);
        y.hold(0, -1, -1, 3, 0, 120000);
        Offices.fillBook(y, 396);
        check.is(3, y.carry(0, 4, 110));
        check.is(400, y.count(2));
        check.same("12 0 110 1", Offices.act(y, 399));
        check.is(-1, y.broken());
    }
}
