/** Offices to begin a test with. */
final class Offices {
    private Offices() {
    }

    /** Class 0 is due on the day of filing; folder 0 has records 0, 1, .. filed on days 0, 1, .. */
    static RecordsOffice withRecords(int records) {
        RecordsOffice x = new RecordsOffice();
        x.version(0, 0, 0, 0, false, 0);
        x.open(0, 0);
        for (int i = 0; i < records; i++) {
            x.file(0, 1 + i, 1000 + i, i % 10, -1, -1, i);
        }
        return x;
    }

    /** The same, with officer 0 to draw up, 1, 2 and 3 to approve, 4 to carry out, and list 0 drawn up on day 100. */
    static RecordsOffice withList(int records) {
        RecordsOffice x = withRecords(records);
        x.officer(0, 1);
        x.officer(1, 2);
        x.officer(2, 2);
        x.officer(3, 2);
        x.officer(4, 4);
        x.draw(0, 100);
        return x;
    }

    /** The same, and list 0 is approved by two. */
    static RecordsOffice withApprovedList(int records) {
        RecordsOffice x = withList(records);
        x.approve(0, 1);
        x.approve(0, 2);
        return x;
    }

    /**
     * All is on day 0: folder 0 of class 0 has a record, due on that day, which is on list 0; officer 0 may draw up and
     * carry out, 1, 2 and 3 may approve, and 1 and 2 have approved the list.
     */
    static RecordsOffice onDayZero() {
        RecordsOffice x = withRecords(1);
        x.officer(0, 5);
        x.officer(1, 2);
        x.officer(2, 2);
        x.officer(3, 2);
        x.draw(0, 0);
        x.approve(0, 1);
        x.approve(0, 2);
        return x;
    }

    /** Class 0 with an event and a term of no length, and folder 0 of it. */
    static RecordsOffice withEvent(int event) {
        RecordsOffice x = new RecordsOffice();
        x.version(0, event, 0, 0, false, 0);
        x.open(0, 0);
        return x;
    }

    static int fileOn(RecordsOffice x, int folder, int day) {
        return x.file(folder, 1, 1, -1, -1, -1, day);
    }

    /** Fills the book with holds placed and lifted until it has so many acts; no record is covered by them. */
    static void fillBook(RecordsOffice x, int acts) {
        boolean placed = false;
        // The acts are counted here, not asked for: an object is used for 512 calls at most.
        for (int i = x.count(2); i < acts; i++) {
            if (placed) {
                x.lift(7);
            } else {
                x.hold(7, 15, 7, 99, 120000, 120000);
            }
            placed = !placed;
        }
    }

    static String act(RecordsOffice x, int i) {
        return x.act(i, 0) + " " + x.act(i, 1) + " " + x.act(i, 2) + " " + x.act(i, 3);
    }

    static String lastAct(RecordsOffice x) {
        return act(x, x.count(2) - 1);
    }

    static String list(RecordsOffice x, int list) {
        StringBuilder text = new StringBuilder();
        for (int i = 0; x.listed(list, i) != -1; i++) {
            text.append(i == 0 ? "" : " ").append(x.listed(list, i));
        }
        return text.toString();
    }
}
