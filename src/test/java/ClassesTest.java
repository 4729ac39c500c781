/** Promises 1 (a new object), 2 (officer), 3 (version), 4 (fiscal), and by which version a record is due (12). */
public final class ClassesTest {
    private static final Check check = new Check();

    public static void main(String[] args) {
        officerFromNowOn();
        versionCountsAndActs();
        fiscalAppliesToFoldersOpenBefore();
        chosenVersion();
        chosenVersionForAll();
        versionsOfTheSameDay();
        versionAddedLaterCounts();
        check.end();
    }

    private static void officerFromNowOn() {
        RecordsOffice x = Offices.withRecords(1);
        x.officer(7, 1);
        check.is(0, x.draw(7, 100));
        check.argument(() -> x.officer(7, 9));
        check.is(1, x.draw(7, 100));
        x.officer(7, 6);
        check.state(() -> x.draw(7, 100));
        x.officer(7, 5);
        check.is(2, x.draw(7, 100));
        x.officer(7, 0);
        check.state(() -> x.draw(7, 100));
    }

    private static void versionCountsAndActs() {
        RecordsOffice x = new RecordsOffice();
        check.is(1, x.version(7, 3, 100, 11, true, 120000));
        check.is(2, x.version(7, 3, 0, 0, false, 120000));
        check.is(1, x.version(0, 0, 2, 5, false, 0));
        check.same("1 7 1211 120000", Offices.act(x, 0));
        check.same("1 7 0 120000", Offices.act(x, 1));
        check.same("1 0 29 0", Offices.act(x, 2));
    }

    private static void fiscalAppliesToFoldersOpenBefore() {
        RecordsOffice x = new RecordsOffice();
        x.version(0, 3, 0, 0, false, 0);
        x.open(0, 0);
        x.fiscal(12);
        x.file(0, 1, 1, -1, -1, -1, 333);
        x.file(0, 1, 1, -1, -1, -1, 334);
        check.is(333, x.due(0));
        check.is(333 + 365, x.due(1));
    }

    private static void chosenVersion() {
        RecordsOffice x = new RecordsOffice();
        x.version(0, 0, 0, 1, false, 31);
        x.version(0, 0, 0, 2, true, 59);
        x.version(0, 0, 0, 3, false, 90);
        x.open(0, 0);
        fileOn(x, 0, 30, 31, 58, 59, 89, 90, 100);
        // The second version is for all, so the first one is never the one; the third one is from its day on.
        check.is(59, x.due(0));
        check.is(89, x.due(1));
        check.is(90, x.due(2));
        check.is(117, x.due(3));
        check.is(120, x.due(4));
        check.is(150, x.due(5));
        check.is(181, x.due(6));
        check.is(191, x.due(7));
    }

    private static void chosenVersionForAll() {
        RecordsOffice x = new RecordsOffice();
        x.version(0, 0, 1, 0, true, 100);
        x.version(0, 0, 2, 0, false, 200);
        x.version(0, 0, 3, 0, true, 300);
        x.version(0, 0, 4, 0, true, 400);
        x.version(0, 0, 5, 0, false, 500);
        x.open(0, 0);
        fileOn(x, 0, 100, 250, 300, 400, 499, 500);
        for (int i = 0; i <= 5; i++) {
            check.is(x.later(x.record(i, 1), 4, 0), x.due(i));
        }
        check.is(x.later(500, 5, 0), x.due(6));
    }

    private static void versionsOfTheSameDay() {
        RecordsOffice x = new RecordsOffice();
        x.version(0, 0, 1, 0, false, 10);
        x.version(0, 0, 2, 0, false, 10);
        x.open(0, 0);
        fileOn(x, 9, 10);
        check.is(x.later(9, 1, 0), x.due(0));
        check.is(x.later(10, 2, 0), x.due(1));
    }

    private static void versionAddedLaterCounts() {
        RecordsOffice x = new RecordsOffice();
        x.version(0, 0, 1, 0, false, 0);
        x.open(0, 0);
        fileOn(x, 10, 50);
        x.version(0, 0, 2, 0, false, 40);
        check.is(x.later(10, 1, 0), x.due(0));
        check.is(x.later(50, 2, 0), x.due(1));
        x.version(0, 0, 3, 0, true, 1000);
        check.is(x.later(10, 3, 0), x.due(0));
        check.is(x.later(50, 3, 0), x.due(1));
    }

    private static void fileOn(RecordsOffice x, int... days) {
        for (int day : days) {
            x.file(0, 1, 1, -1, -1, -1, day);
        }
    }
}
