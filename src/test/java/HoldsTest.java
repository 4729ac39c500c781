/** Promises 9 (hold), 10 (lift), 11 (covered). */
public final class HoldsTest {
    private static final Check check = new Check();

    public static void main(String[] args) {
        holdActs();
        placedAgainWithOtherTerms();
        coversByFolder();
        coversByClass();
        coversByKey();
        coversByDays();
        coversByAllTogether();
        coversWhatComesLater();
        check.end();
    }

    /** Folders 0 and 1 of class 0, folder 2 of class 1, with a record in each on days 10, 20, 30. */
    private static RecordsOffice threeFolders() {
        RecordsOffice x = new RecordsOffice();
        x.version(0, 0, 0, 0, false, 0);
        x.version(1, 1, 0, 0, false, 0);
        x.open(0, 0);
        x.open(1, 0);
        x.open(2, 1);
        x.file(0, 1, 1, 5, 6, 7, 10);
        x.file(1, 1, 1, 6, -1, -1, 20);
        x.file(2, 1, 1, -1, 7, 0, 30);
        return x;
    }

    private static String covered(RecordsOffice x) {
        StringBuilder text = new StringBuilder();
        for (int i = 0; i < x.count(0); i++) {
            text.append(x.covered(i));
        }
        return text.toString();
    }

    private static void holdActs() {
        RecordsOffice x = new RecordsOffice();
        x.hold(0, -1, -1, -1, 0, 120000);
        check.same("6 0 0 0", Offices.lastAct(x));
        x.hold(7, 15, 7, 99, 120000, 120000);
        check.same("6 7 16 8", Offices.lastAct(x));
        x.lift(0);
        check.same("7 0 0 0", Offices.lastAct(x));
        x.lift(7);
        check.same("7 7 0 0", Offices.lastAct(x));
        check.is(0, x.count(3));
    }

    private static void placedAgainWithOtherTerms() {
        RecordsOffice x = threeFolders();
        x.hold(3, 0, 0, 5, 10, 10);
        check.same("100", covered(x));
        x.lift(3);
        check.same("000", covered(x));
        x.hold(3, -1, -1, -1, 20, 30);
        check.same("011", covered(x));
    }

    private static void coversByFolder() {
        RecordsOffice x = threeFolders();
        x.hold(0, 1, -1, -1, 0, 120000);
        check.same("010", covered(x));
        x.hold(1, 15, -1, -1, 0, 120000);
        check.same("010", covered(x));
    }

    private static void coversByClass() {
        RecordsOffice x = threeFolders();
        x.hold(0, -1, 0, -1, 0, 120000);
        check.same("110", covered(x));
        x.hold(1, -1, 1, -1, 0, 120000);
        check.same("111", covered(x));
        x.hold(2, -1, 7, -1, 0, 120000);
        check.same("111", covered(x));
    }

    private static void coversByKey() {
        RecordsOffice x = threeFolders();
        x.hold(0, -1, -1, 5, 0, 120000);
        check.same("100", covered(x));
        x.hold(1, -1, -1, 6, 0, 120000);
        check.same("210", covered(x));
        x.hold(2, -1, -1, 7, 0, 120000);
        check.same("311", covered(x));
        x.hold(3, -1, -1, 0, 0, 120000);
        check.same("312", covered(x));
    }

    private static void coversByDays() {
        RecordsOffice x = threeFolders();
        x.hold(0, -1, -1, -1, 10, 20);
        check.same("110", covered(x));
        x.hold(1, -1, -1, -1, 11, 19);
        check.same("110", covered(x));
        x.hold(2, -1, -1, -1, 20, 20);
        check.same("120", covered(x));
        x.hold(3, -1, -1, -1, 30, 120000);
        check.same("121", covered(x));
    }

    private static void coversByAllTogether() {
        RecordsOffice x = threeFolders();
        x.hold(0, 0, 1, -1, 0, 120000);
        x.hold(1, 0, -1, 8, 0, 120000);
        x.hold(2, 0, 0, 5, 11, 120000);
        check.same("000", covered(x));
        x.hold(3, 0, 0, 5, 10, 10);
        check.same("100", covered(x));
    }

    private static void coversWhatComesLater() {
        RecordsOffice x = threeFolders();
        x.hold(0, 5, 1, 50, 40, 50);
        x.open(5, 1);
        x.file(5, 1, 1, -1, -1, 50, 40);
        x.file(5, 1, 1, -1, -1, 51, 40);
        x.file(2, 1, 1, -1, -1, 50, 40);
        x.file(5, 1, 1, 50, -1, -1, 50);
        x.file(5, 1, 1, 50, -1, -1, 51);
        check.same("00010010", covered(x));
    }
}
