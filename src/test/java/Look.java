/** All that can be asked of an office, as one text. */
final class Look {
    private Look() {
    }

    static String at(RecordsOffice x) {
        StringBuilder text = new StringBuilder("counts");
        for (int what = 0; what < 5; what++) {
            text.append(' ').append(x.count(what));
        }
        for (int i = 0; i < x.count(0); i++) {
            appendRecord(text, x, i);
        }
        for (int i = 0; i < x.count(1); i++) {
            appendList(text, x, i);
        }
        for (int i = 0; i < x.count(2); i++) {
            appendAct(text, x, i);
        }
        return text.append("\nbroken ").append(x.broken()).toString();
    }

    private static void appendRecord(StringBuilder text, RecordsOffice x, int record) {
        text.append("\nrecord ").append(record).append(':');
        for (int what = 0; what < 5; what++) {
            text.append(' ').append(x.record(record, what));
        }
        text.append(" due ").append(x.due(record)).append(" covered ").append(x.covered(record));
        text.append(" digest ").append(x.record(record, 3) == 1 ? "gone" : "" + x.read(record));
    }

    private static void appendList(StringBuilder text, RecordsOffice x, int list) {
        text.append("\nlist ").append(list).append(':');
        for (int i = 0; x.listed(list, i) != RecordsOffice.NONE; i++) {
            text.append(' ').append(x.listed(list, i));
        }
    }

    private static void appendAct(StringBuilder text, RecordsOffice x, int act) {
        text.append("\nact ").append(act).append(':');
        for (int what = 0; what < 4; what++) {
            text.append(' ').append(x.act(act, what));
        }
        text.append(" link ").append(x.link(act));
    }
}
