/** Promises 8 (file), 12 (due), 13 (record), 14 (read), 15 (find). */
public final class RecordsTest {
    private static final Check check = new Check();

    public static void main(String[] args) {
        files();
        dueBehindTheLastDay();
        tellsOfRecords();
        reads();
        finds();
        findsNoDestroyedOnes();
        check.end();
    }

    private static RecordsOffice twoFolders() {
        RecordsOffice x = new RecordsOffice();
        x.version(0, 0, 0, 0, false, 0);
        x.open(0, 0);
        x.open(9, 0);
        return x;
    }

    private static void files() {
        RecordsOffice x = twoFolders();
        check.is(0, x.file(9, 1, Long.MIN_VALUE, 0, 99, -1, 0));
        check.same("5 0 9 0", Offices.lastAct(x));
        check.is(1, x.file(0, 65536, Long.MAX_VALUE, -1, -1, -1, 120000));
        check.same("5 1 0 120000", Offices.lastAct(x));
        check.is(2, x.count(0));
        check.is(120000, x.count(3));
        check.is(65537, x.count(4));
    }

    private static void dueBehindTheLastDay() {
        RecordsOffice x = new RecordsOffice();
        x.version(0, 0, 100, 11, false, 0);
        x.version(1, 3, 100, 11, false, 0);
        x.fiscal(7);
        x.open(0, 0);
        x.open(1, 1);
        x.file(0, 1, 1, -1, -1, -1, 120000);
        x.file(1, 1, 1, -1, -1, -1, 120000);
        check.is(156859, x.due(0));
        // 30 June 2229 and a hundred years and eleven months: 30 (not 31) May 2330.
        check.is(120000 + 345 + 36524 + 334, x.due(1));
        x.officer(0, 1);
        check.state(() -> x.draw(0, 120000));
    }

    private static void tellsOfRecords() {
        RecordsOffice x = twoFolders();
        x.file(9, 321, 4, 1, 2, 3, 77);
        check.is(9, x.record(0, 0));
        check.is(77, x.record(0, 1));
        check.is(321, x.record(0, 2));
        check.is(0, x.record(0, 3));
        check.is(3, x.record(0, 4));
        RecordsOffice y = Offices.withApprovedList(2);
        y.carry(0, 4, 100);
        check.is(1, y.record(1, 3));
        check.is(0, y.record(1, 0));
        check.is(1, y.record(1, 1));
        check.is(2, y.record(1, 2));
        check.is(1, y.record(1, 4));
        check.is(1, y.due(1));
    }

    private static void reads() {
        RecordsOffice x = twoFolders();
        x.file(0, 1, Long.MIN_VALUE, -1, -1, -1, 0);
        x.file(0, 1, -7, -1, -1, -1, 1);
        check.is(Long.MIN_VALUE, x.read(0));
        check.is(-7, x.read(1));
        check.index(() -> x.read(2));
        check.index(() -> x.read(-1));
        RecordsOffice y = Offices.withApprovedList(2);
        y.strike(0, 0);
        y.carry(0, 4, 100);
        check.is(1000, y.read(0));
        check.state(() -> y.read(1));
        check.index(() -> y.read(2));
    }

    private static void finds() {
        RecordsOffice x = twoFolders();
        x.file(0, 1, 1, 0, 1, 2, 10);
        x.file(9, 1, 1, 2, -1, -1, 10);
        x.file(0, 1, 1, 3, 3, 2, 20);
        x.file(0, 1, 1, 99, 2, 2, 30);
        check.is(0, x.find(2, 10, 30, 0));
        check.is(1, x.find(2, 10, 30, 1));
        check.is(2, x.find(2, 10, 30, 2));
        check.is(3, x.find(2, 10, 30, 3));
        check.is(-1, x.find(2, 10, 30, 4));
        check.is(-1, x.find(2, 10, 30, Integer.MAX_VALUE));
        check.is(2, x.find(2, 11, 29, 0));
        check.is(-1, x.find(2, 11, 29, 1));
        check.is(2, x.find(3, 20, 20, 0));
        check.is(-1, x.find(3, 20, 20, 1));
        check.is(3, x.find(99, 0, 120000, 0));
        check.is(0, x.find(0, 0, 120000, 0));
        check.is(0, x.find(1, 0, 120000, 0));
        check.is(-1, x.find(98, 0, 120000, 0));
    }

    private static void findsNoDestroyedOnes() {
        RecordsOffice x = Offices.withApprovedList(21);
        check.is(10, x.find(0, 0, 120000, 1));
        for (int i = 0; i < 21; i++) {
            if (i != 10) {
                x.strike(0, i);
            }
        }
        check.is(1, x.carry(0, 4, 100));
        check.is(0, x.find(0, 0, 120000, 0));
        check.is(20, x.find(0, 0, 120000, 1));
        check.is(-1, x.find(0, 0, 120000, 2));
    }
}
