/** The boundary cases of promises 8 (file), 12 (due), 13 (record), 14 (read) and 15 (find). */
public final class RecordsEdgesTest {
    private static final Edges edges = new Edges();
    private static final Recipe NEW = RecordsOffice::new;
    /** Folders 0 and 15 are there; no record is filed. */
    private static final Recipe FOLDERS = NEW.then(x -> {
        x.version(0, 0, 0, 0, false, 0);
        x.open(0, 0);
        x.open(15, 0);
    });
    /** The same with a record filed on day 10. */
    private static final Recipe FILED = FOLDERS.then(x -> x.file(0, 7, 77, 1, 2, 3, 10));
    private static final Recipe ALL = () -> Offices.withRecords(64);
    private static final Recipe LISTED = () -> Offices.withApprovedList(3);
    /** Records 0 and 2 are destroyed. */
    private static final Recipe CARRIED = LISTED.then(x -> x.strike(0, 1)).then(x -> x.carry(0, 4, 100));

    public static void main(String[] args) {
        edges.promise("Promise 8: file");
        edges.sentence("A record is FILED, with up to three keys (NONE for none): its number.",
                RecordsEdgesTest::numbersOfRecords);
        edges.sentence("IndexOutOfBoundsException", RecordsEdgesTest::filesInNoSuchFolder);
        edges.sentence("a key is not NONE .. 99", RecordsEdgesTest::noSuchKey);
        edges.sentence("the size not 1 .. 65536", RecordsEdgesTest::noSuchSize);
        edges.sentence("IllegalArgumentException", RecordsEdgesTest::filesOnNoSuchDay);
        edges.sentence("the folder is closed", RecordsEdgesTest::folderIsClosed);
        edges.sentence("or there are 64", RecordsEdgesTest::thereAre64);
        edges.sentence("of several exceptions the one named first is thrown", RecordsEdgesTest::fileInOrder);

        edges.promise("Promise 12: due");
        edges.sentence("NONE if its event has not been", RecordsEdgesTest::noEventYet);
        edges.sentence("The day on which a record is DUE", RecordsEdgesTest::dueOfDestroyedOnes);
        edges.sentence("IndexOutOfBoundsException.", RecordsEdgesTest::dueOfNoSuchRecord);

        edges.promise("Promise 13: record");
        edges.sentence("its folder (what = 0), day (1), size (2), 1 if it is destroyed, else 0 (3), how many keys (4",
                RecordsEdgesTest::tellsOfARecord);
        edges.sentence("1 if it is destroyed, else 0 (3)", RecordsEdgesTest::tellsOfDestroyedOnes);
        edges.sentence("the same one told twice counts once", RecordsEdgesTest::keysToldTwice);
        edges.sentence("IndexOutOfBoundsException", RecordsEdgesTest::tellsOfNoSuchRecord);
        edges.sentence("IllegalArgumentException: another what.", RecordsEdgesTest::anotherWhat);
        edges.sentence("of several exceptions the one named first is thrown", RecordsEdgesTest::recordInOrder);

        edges.promise("Promise 14: read");
        edges.sentence("The DIGEST of a record.", RecordsEdgesTest::digests);
        edges.sentence("IndexOutOfBoundsException", RecordsEdgesTest::readsNoSuchRecord);
        edges.sentence("IllegalStateException: it is destroyed.", RecordsEdgesTest::readsNoDestroyedOne);

        edges.promise("Promise 15: find");
        edges.sentence("The k-th record (from 0 on", RecordsEdgesTest::placesOfFoundOnes);
        edges.sentence("by days on which they were FILED, of the same by numbers", RecordsEdgesTest::orderOfFoundOnes);
        edges.sentence("not destroyed", RecordsEdgesTest::findsNoDestroyedOnes);
        edges.sentence("that has a key", RecordsEdgesTest::findsByEachKey);
        edges.sentence("and was FILED from one day to another one", RecordsEdgesTest::findsByDays);
        edges.sentence("NONE if there are not so many", RecordsEdgesTest::notSoMany);
        edges.sentence("IllegalArgumentException: key is not 0 .. 99", RecordsEdgesTest::findsNoSuchKey);
        edges.sentence("or k below 0", RecordsEdgesTest::belowZero);
        edges.end();
    }

    private static void numbersOfRecords() {
        edges.gives(0, FOLDERS, x -> x.file(0, 1, 1, -1, -1, -1, 0));
        edges.gives(1, FILED, x -> x.file(15, 1, 1, 0, 50, 99, 10));
        Recipe some = () -> Offices.withRecords(63);
        edges.gives(63, some, x -> Offices.fileOn(x, 0, 70));
        edges.same("5 0 0 10", Offices.lastAct(FILED.make()));
        edges.same("5 1 15 120000", Offices.lastAct(FILED.then(x -> Offices.fileOn(x, 15, 120000)).make()));
        edges.same("5 63 0 70", Offices.lastAct(some.then(x -> Offices.fileOn(x, 0, 70)).make()));
        edges.gives(0, FOLDERS.then(x -> x.file(0, 1, 1, -1, -1, -1, 0)), x -> x.record(0, 4));
        edges.gives(3, FILED, x -> x.record(0, 4));
    }

    private static void filesInNoSuchFolder() {
        edges.indexOutside(0, 0, FILED, (x, folder) -> Offices.fileOn(x, folder, 10));
        edges.indexOutside(15, 15, FILED, (x, folder) -> Offices.fileOn(x, folder, 10));
        edges.index(NEW, x -> Offices.fileOn(x, 0, 0));
    }

    private static void noSuchKey() {
        edges.argumentOutside(-1, 99, FILED, (x, key) -> x.file(0, 1, 1, key, 5, 6, 10));
        edges.argumentOutside(-1, 99, FILED, (x, key) -> x.file(0, 1, 1, 5, key, 6, 10));
        edges.argumentOutside(-1, 99, FILED, (x, key) -> x.file(0, 1, 1, 5, 6, key, 10));
    }

    private static void noSuchSize() {
        edges.argumentOutside(1, 65536, FILED, (x, size) -> x.file(0, size, 1, -1, -1, -1, 10));
        edges.argument(FILED, x -> x.file(0, -1, 1, -1, -1, -1, 10));
    }

    private static void filesOnNoSuchDay() {
        edges.argumentOutside(10, 120000, FILED, (x, day) -> Offices.fileOn(x, 0, day));
        edges.argumentOutside(0, 120000, FOLDERS, (x, day) -> Offices.fileOn(x, 0, day));
    }

    private static void folderIsClosed() {
        Recipe closed = FILED.then(x -> x.close(0, 10));
        edges.state(closed, x -> Offices.fileOn(x, 0, 10));
        edges.state(closed, x -> Offices.fileOn(x, 0, 120000));
        edges.gives(1, closed, x -> Offices.fileOn(x, 15, 10));
        edges.gives(1, FILED.then(x -> x.left(0, 10)), x -> Offices.fileOn(x, 0, 10));
    }

    private static void thereAre64() {
        edges.state(ALL, x -> Offices.fileOn(x, 0, 63));
        edges.state(ALL, x -> Offices.fileOn(x, 0, 120000));
        edges.state(ALL.then(x -> x.open(1, 0)), x -> Offices.fileOn(x, 1, 63));
        edges.gives(64, ALL, x -> x.count(0));
    }

    private static void fileInOrder() {
        Recipe closed = FILED.then(x -> x.close(0, 10));
        Recipe all = ALL.then(x -> {
            x.open(15, 0);
            x.left(15, 100);
        });
        Refusals onDay10 = new Refusals(edges,
                (x, n) -> x.file(n[0], n[1], 1, n[2], n[3], n[4], n[5]), 0, 1, -1, -1, -1, 10);
        addWrongNumbers(onDay10).argument(5, -1, 9, 120001)
                .takenIn(FILED, FILED.withActs(399))
                .stateIn(closed, FILED.withActs(400), closed.withActs(400))
                .check();
        Refusals onDay100 = new Refusals(edges,
                (x, n) -> x.file(n[0], n[1], 1, n[2], n[3], n[4], n[5]), 0, 1, -1, -1, -1, 100);
        addWrongNumbers(onDay100).argument(5, -1, 99, 120001).stateIn(all).check();
    }

    private static Refusals addWrongNumbers(Refusals file) {
        return file.index(0, -1, 1, 16)
                .argument(1, 0, 65537)
                .argument(2, -2, 100)
                .argument(3, -2, 100)
                .argument(4, -2, 100);
    }

    private static void noEventYet() {
        for (int event = 0; event < 4; event++) {
            int each = event;
            Recipe filed = () -> Offices.withEvent(each);
            Recipe one = filed.then(x -> Offices.fileOn(x, 0, 5));
            edges.gives(event == 0 ? 5 : event == 3 ? 364 : -1, one, x -> x.due(0));
            edges.gives(event == 0 ? 5 : event == 3 ? 364 : event == 1 ? 6 : -1, one.then(x -> x.close(0, 6)), x -> x.due(0));
            edges.gives(event == 0 ? 5 : event == 3 ? 364 : event == 2 ? 6 : -1, one.then(x -> x.left(0, 6)), x -> x.due(0));
        }
        // The event was on day 0: that is a day, not none.
        Recipe closing = () -> Offices.withEvent(1);
        edges.gives(0, closing.then(x -> Offices.fileOn(x, 0, 0)).then(x -> x.close(0, 0)), x -> x.due(0));
        Recipe leaving = () -> Offices.withEvent(2);
        edges.gives(0, leaving.then(x -> Offices.fileOn(x, 0, 0)).then(x -> x.left(0, 0)), x -> x.due(0));
    }

    private static void dueOfDestroyedOnes() {
        edges.gives(0, CARRIED, x -> x.due(0));
        edges.gives(2, CARRIED, x -> x.due(2));
        edges.gives(61, CARRIED.then(x -> x.version(0, 0, 0, 2, true, 0)), x -> x.due(2));
        edges.gives(2, LISTED.then(x -> x.hold(0, -1, -1, -1, 0, 120000)), x -> x.due(2));
    }

    private static void dueOfNoSuchRecord() {
        edges.indexOutside(0, 2, LISTED, (x, record) -> x.due(record));
        edges.indexOutside(0, 63, ALL, (x, record) -> x.due(record));
        edges.index(NEW, x -> x.due(0));
    }

    private static void tellsOfARecord() {
        Recipe filed = FILED.then(x -> x.file(15, 65536, 1, -1, 0, -1, 120000));
        int[][] told = {{0, 10, 7, 0, 3}, {15, 120000, 65536, 0, 1}};
        for (int record = 0; record < 2; record++) {
            for (int what = 0; what < 5; what++) {
                int each = record;
                int number = what;
                edges.gives(told[record][what], filed, x -> x.record(each, number));
            }
        }
    }

    private static void tellsOfDestroyedOnes() {
        edges.gives(1, CARRIED, x -> x.record(0, 3));
        edges.gives(0, CARRIED, x -> x.record(1, 3));
        edges.gives(1, CARRIED, x -> x.record(2, 3));
        edges.gives(0, LISTED, x -> x.record(2, 3));
        // All else is told of a destroyed one as before.
        edges.gives(0, CARRIED, x -> x.record(2, 0));
        edges.gives(2, CARRIED, x -> x.record(2, 1));
        edges.gives(3, CARRIED, x -> x.record(2, 2));
        edges.gives(1, CARRIED, x -> x.record(2, 4));
    }

    private static void keysToldTwice() {
        int[][] keysAndCount = {
            {-1, -1, -1, 0}, {0, -1, -1, 1}, {-1, 0, -1, 1}, {-1, -1, 0, 1}, {99, 99, 99, 1}, {0, 0, -1, 1},
            {0, -1, 0, 1}, {-1, 0, 0, 1}, {0, 99, -1, 2}, {0, -1, 99, 2}, {-1, 0, 99, 2}, {5, 5, 6, 2}, {5, 6, 5, 2},
            {6, 5, 5, 2}, {5, 6, 7, 3},
        };
        for (int[] each : keysAndCount) {
            Recipe filed = FOLDERS.then(x -> x.file(0, 1, 1, each[0], each[1], each[2], 0));
            edges.gives(each[3], filed, x -> x.record(0, 4));
        }
    }

    private static void tellsOfNoSuchRecord() {
        for (int what = 0; what < 5; what++) {
            int each = what;
            edges.indexOutside(0, 2, LISTED, (x, record) -> x.record(record, each));
        }
        edges.indexOutside(0, 63, ALL, (x, record) -> x.record(record, 0));
        edges.index(NEW, x -> x.record(0, 0));
    }

    private static void anotherWhat() {
        edges.argumentOutside(0, 4, LISTED, (x, what) -> x.record(0, what));
        edges.argumentOutside(0, 4, CARRIED, (x, what) -> x.record(2, what));
    }

    private static void recordInOrder() {
        new Refusals(edges, (x, n) -> x.record(n[0], n[1]), 0, 0)
                .index(0, -1, 3, 64)
                .argument(1, -1, 5)
                .takenIn(LISTED, CARRIED)
                .check();
    }

    private static void digests() {
        for (long digest : new long[] {Long.MIN_VALUE, -1, 0, 1, Long.MAX_VALUE}) {
            edges.gives(digest, FOLDERS.then(x -> x.file(0, 1, digest, -1, -1, -1, 0)), x -> x.read(0));
        }
        edges.gives(1063, ALL, x -> x.read(63));
        edges.gives(1000, ALL, x -> x.read(0));
    }

    private static void readsNoSuchRecord() {
        edges.indexOutside(0, 2, LISTED, (x, record) -> x.read(record));
        edges.indexOutside(0, 63, ALL, (x, record) -> x.read(record));
        edges.index(NEW, x -> x.read(0));
    }

    private static void readsNoDestroyedOne() {
        edges.state(CARRIED, x -> x.read(0));
        edges.gives(1001, CARRIED, x -> x.read(1));
        edges.state(CARRIED, x -> x.read(2));
        edges.index(CARRIED, x -> x.read(3));
        edges.gives(1002, LISTED, x -> x.read(2));
    }

    private static void placesOfFoundOnes() {
        // Records 3, 13, 23, .. have key 3.
        for (int k = 0; k < 7; k++) {
            int each = k;
            edges.gives(3 + 10 * k, ALL, x -> k(x, 3, each));
        }
        edges.gives(-1, ALL, x -> k(x, 3, 7));
        edges.gives(-1, ALL, x -> k(x, 4, 6));
        Recipe sameKey = FOLDERS.then(x -> {
            for (int i = 0; i < 64; i++) {
                x.file(0, 1, 1, 99, -1, -1, 0);
            }
        });
        edges.gives(0, sameKey, x -> k(x, 99, 0));
        edges.gives(63, sameKey, x -> k(x, 99, 63));
        edges.gives(-1, sameKey, x -> k(x, 99, 64));
    }

    private static int k(RecordsOffice x, int key, int k) {
        return x.find(key, 0, 120000, k);
    }

    private static void orderOfFoundOnes() {
        Recipe filed = FOLDERS.then(x -> {
            x.file(15, 1, 1, 5, -1, -1, 10);
            x.file(0, 1, 1, -1, 5, -1, 10);
            x.file(15, 1, 1, 5, -1, -1, 11);
            x.file(0, 1, 1, -1, -1, 5, 11);
        });
        for (int i = 0; i < 4; i++) {
            int each = i;
            edges.gives(i, filed, x -> k(x, 5, each));
        }
        edges.gives(2, filed, x -> x.find(5, 11, 11, 0));
        edges.gives(3, filed, x -> x.find(5, 11, 11, 1));
        edges.gives(1, filed, x -> x.find(5, 10, 10, 1));
    }

    private static void findsNoDestroyedOnes() {
        edges.gives(0, LISTED, x -> k(x, 0, 0));
        edges.gives(-1, CARRIED, x -> k(x, 0, 0));
        edges.gives(1, CARRIED, x -> k(x, 1, 0));
        edges.gives(-1, CARRIED, x -> k(x, 2, 0));
        // Those behind a destroyed one move up.
        Recipe many = () -> Offices.withApprovedList(31);
        Recipe one = many.then(x -> {
            for (int i = 0; i < 31; i++) {
                if (i != 10) {
                    x.strike(0, i);
                }
            }
            x.carry(0, 4, 100);
        });
        edges.gives(10, many, x -> k(x, 0, 1));
        edges.gives(0, one, x -> k(x, 0, 0));
        edges.gives(20, one, x -> k(x, 0, 1));
        edges.gives(30, one, x -> k(x, 0, 2));
        edges.gives(-1, one, x -> k(x, 0, 3));
        // A record that is held is found.
        edges.gives(0, LISTED.then(x -> x.hold(0, -1, -1, -1, 0, 120000)), x -> k(x, 0, 0));
    }

    private static void findsByEachKey() {
        edges.gives(0, FILED, x -> k(x, 1, 0));
        edges.gives(0, FILED, x -> k(x, 2, 0));
        edges.gives(0, FILED, x -> k(x, 3, 0));
        edges.gives(-1, FILED, x -> k(x, 0, 0));
        edges.gives(-1, FILED, x -> k(x, 4, 0));
        Recipe twice = FOLDERS.then(x -> x.file(0, 1, 1, 5, 5, 5, 0));
        edges.gives(0, twice, x -> k(x, 5, 0));
        edges.gives(-1, twice, x -> k(x, 5, 1));
        Recipe none = FOLDERS.then(x -> x.file(0, 1, 1, -1, -1, -1, 0));
        edges.gives(-1, none, x -> k(x, 0, 0));
        edges.gives(-1, none, x -> k(x, 99, 0));
    }

    private static void findsByDays() {
        edges.gives(0, FILED, x -> x.find(1, 10, 10, 0));
        edges.gives(0, FILED, x -> x.find(1, 0, 10, 0));
        edges.gives(0, FILED, x -> x.find(1, 10, 120000, 0));
        edges.gives(-1, FILED, x -> x.find(1, 0, 9, 0));
        edges.gives(-1, FILED, x -> x.find(1, 11, 120000, 0));
        Recipe ends = FOLDERS.then(x -> {
            x.file(0, 1, 1, 1, -1, -1, 0);
            x.file(0, 1, 1, 1, -1, -1, 120000);
        });
        edges.gives(0, ends, x -> x.find(1, 0, 0, 0));
        edges.gives(1, ends, x -> x.find(1, 120000, 120000, 0));
        edges.gives(1, ends, x -> x.find(1, 0, 120000, 1));
        edges.gives(-1, ends, x -> x.find(1, 1, 119999, 0));
        // No day is filed on from a later one to an earlier one; the promise names no days that are refused.
        edges.gives(-1, FILED, x -> x.find(1, 11, 9, 0));
        edges.gives(-1, FILED, x -> x.find(1, 120000, 0, 0));
        edges.gives(0, FILED, x -> x.find(1, -1, 120001, 0));
        edges.gives(0, FILED, x -> x.find(1, Integer.MIN_VALUE, Integer.MAX_VALUE, 0));
    }

    private static void notSoMany() {
        edges.gives(-1, NEW, x -> k(x, 0, 0));
        edges.gives(-1, FOLDERS, x -> k(x, 0, 0));
        edges.gives(-1, FILED, x -> k(x, 1, 1));
        edges.gives(-1, FILED, x -> k(x, 1, 64));
        edges.gives(-1, FILED, x -> k(x, 1, Integer.MAX_VALUE));
        edges.gives(-1, ALL, x -> k(x, 3, Integer.MAX_VALUE));
    }

    private static void findsNoSuchKey() {
        edges.argumentOutside(0, 99, FILED, (x, key) -> x.find(key, 0, 120000, 0));
        edges.argumentOutside(0, 99, NEW, (x, key) -> x.find(key, 0, 120000, 0));
        // NONE is no key, also where a record has fewer than three.
        edges.argument(FOLDERS.then(x -> Offices.fileOn(x, 0, 0)), x -> x.find(-1, 0, 0, 0));
    }

    private static void belowZero() {
        for (Recipe recipe : new Recipe[] {NEW, FILED}) {
            edges.argument(recipe, x -> x.find(1, 0, 120000, -1));
            edges.argument(recipe, x -> x.find(1, 0, 120000, Integer.MIN_VALUE));
            edges.takes(recipe, x -> x.find(1, 0, 120000, 0));
            edges.takes(recipe, x -> x.find(1, 0, 120000, Integer.MAX_VALUE));
        }
        edges.argument(FILED, x -> x.find(100, 0, 120000, -1));
    }
}
