/** Promises 5 (open), 6 (close), 7 (left), and what they do to due days (12) and the day of the office (21). */
public final class FoldersTest {
    private static final Check check = new Check();

    public static void main(String[] args) {
        opens();
        closes();
        leaves();
        dueByClosing();
        dueByLeaving();
        check.end();
    }

    private static void opens() {
        RecordsOffice x = new RecordsOffice();
        x.version(7, 1, 0, 0, false, 0);
        x.open(15, 7);
        check.same("2 15 7 0", Offices.lastAct(x));
        x.open(0, 7);
        check.same("2 0 7 0", Offices.lastAct(x));
        check.is(0, x.file(15, 1, 1, -1, -1, -1, 0));
        check.is(15, x.record(0, 0));
        check.is(0, x.count(3));
    }

    private static void closes() {
        RecordsOffice x = Offices.withRecords(3);
        x.close(0, 2);
        check.same("3 0 2 0", Offices.lastAct(x));
        check.state(() -> x.file(0, 1, 1, -1, -1, -1, 5));
        x.version(1, 0, 0, 0, false, 0);
        x.open(1, 1);
        x.close(1, 120000);
        check.is(120000, x.count(3));
    }

    private static void leaves() {
        RecordsOffice x = Offices.withRecords(3);
        x.left(0, 2);
        check.same("4 0 2 0", Offices.lastAct(x));
        check.is(3, x.file(0, 1, 1, -1, -1, -1, 5));
        x.close(0, 6);
        x.version(1, 0, 0, 0, false, 0);
        x.open(1, 1);
        x.close(1, 7);
        x.left(1, 9);
        check.is(9, x.count(3));
    }

    private static void dueByClosing() {
        RecordsOffice x = new RecordsOffice();
        x.version(0, 1, 0, 1, false, 0);
        x.version(0, 1, 1, 0, false, 40);
        x.open(0, 0);
        x.open(1, 0);
        x.file(0, 1, 1, -1, -1, -1, 10);
        x.file(1, 1, 1, -1, -1, -1, 10);
        x.left(0, 11);
        check.is(-1, x.due(0));
        x.close(0, 30);
        check.is(58, x.due(0));
        check.is(-1, x.due(1));
        x.close(1, 40);
        check.is(405, x.due(1));
    }

    private static void dueByLeaving() {
        RecordsOffice x = new RecordsOffice();
        x.version(0, 2, 0, 1, false, 0);
        x.open(0, 0);
        x.file(0, 1, 1, -1, -1, -1, 10);
        x.close(0, 20);
        check.is(-1, x.due(0));
        x.left(0, 30);
        check.is(58, x.due(0));
    }
}
