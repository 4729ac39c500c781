import java.time.LocalDate;
import java.time.temporal.ChronoUnit;
import java.util.ArrayList;
import java.util.List;
import java.util.Set;
import java.util.TreeMap;
import java.util.TreeSet;

/**
 * The document once more, in the library's terms and with nothing in common with the program: the calendar is that
 * of java.time, acts and records are rows in lists, versions are chosen by the document's words one after the other.
 */
final class PlainOffice {
    private static final LocalDate FIRST = LocalDate.of(1900, 1, 1);

    record Version(int first, int months, boolean forAll) {
    }

    record HoldTerms(int folder, int cls, int key, int first, int last) {
    }

    static final class Kept {
        int folder;
        int size;
        long digest;
        Set<Integer> keys = new TreeSet<>();
        int day;
        boolean gone;
    }

    static final class Paper {
        int by;
        List<Integer> rows = new ArrayList<>();
        Set<Integer> approvers = new TreeSet<>();
        boolean carried;
    }

    final int[] rights = new int[8];
    final TreeMap<Integer, List<Version>> versions = new TreeMap<>();
    final TreeMap<Integer, Integer> events = new TreeMap<>();
    final TreeMap<Integer, Integer> folders = new TreeMap<>();
    final TreeMap<Integer, Integer> closed = new TreeMap<>();
    final TreeMap<Integer, Integer> left = new TreeMap<>();
    final TreeMap<Integer, HoldTerms> holds = new TreeMap<>();
    final List<Kept> records = new ArrayList<>();
    final List<Paper> lists = new ArrayList<>();
    final List<int[]> acts = new ArrayList<>();
    final List<Long> links = new ArrayList<>();
    int fiscal = 1;
    int today;

    private static void index(boolean right) {
        if (!right) {
            throw new IndexOutOfBoundsException();
        }
    }

    private static void argument(boolean right) {
        if (!right) {
            throw new IllegalArgumentException();
        }
    }

    private static void state(boolean right) {
        if (!right) {
            throw new IllegalStateException();
        }
    }

    private static boolean in(int low, int x, int high) {
        return low <= x && x <= high;
    }

    private boolean room(int n) {
        return acts.size() + n <= 400;
    }

    private boolean now(int day) {
        return in(0, day, 120000) && day >= today;
    }

    private static long step(long x, long it) {
        x = (x ^ it) * 7046029254386353131L;
        return x ^ (x >>> 29);
    }

    private long tell(int i) {
        long x = i == 0 ? 0 : links.get(i - 1);
        int[] act = acts.get(i);
        for (int each : act) {
            x = step(x, each);
        }
        if (act[0] == 5 || act[0] == 11) {
            x = step(x, in(0, act[1], records.size() - 1) ? records.get(act[1]).digest : 0);
        }
        return x;
    }

    private void write(int... act) {
        acts.add(act);
        links.add(tell(acts.size() - 1));
    }

    void officer(int officer, int r) {
        index(in(0, officer, 7));
        argument(in(0, r, 7));
        rights[officer] = r;
    }

    int version(int cls, int event, int years, int months, boolean forAll, int day) {
        index(in(0, cls, 7));
        argument(in(0, event, 3) && in(0, years, 100) && in(0, months, 11) && in(0, day, 120000));
        List<Version> all = versions.getOrDefault(cls, new ArrayList<>());
        if (!all.isEmpty()) {
            argument(events.get(cls) == event && day >= all.get(all.size() - 1).first);
        }
        state(all.size() < 6 && room(1));
        all.add(new Version(day, 12 * years + months, forAll));
        versions.put(cls, all);
        events.put(cls, event);
        write(1, cls, 12 * years + months, day);
        return all.size();
    }

    void fiscal(int month) {
        argument(in(1, month, 12));
        state(records.isEmpty());
        fiscal = month;
    }

    void open(int folder, int cls) {
        index(in(0, folder, 15) && in(0, cls, 7));
        state(!folders.containsKey(folder) && versions.containsKey(cls) && room(1));
        folders.put(folder, cls);
        write(2, folder, cls, 0);
    }

    void close(int folder, int day) {
        index(folders.containsKey(folder));
        argument(now(day));
        state(!closed.containsKey(folder) && room(1));
        closed.put(folder, day);
        today = day;
        write(3, folder, day, 0);
    }

    void left(int folder, int day) {
        index(folders.containsKey(folder));
        argument(now(day));
        state(!left.containsKey(folder) && room(1));
        left.put(folder, day);
        today = day;
        write(4, folder, day, 0);
    }

    int file(int folder, int size, long digest, int a, int b, int c, int day) {
        index(folders.containsKey(folder));
        argument(in(-1, a, 99) && in(-1, b, 99) && in(-1, c, 99) && in(1, size, 65536) && now(day));
        state(!closed.containsKey(folder) && records.size() < 64 && room(1));
        Kept kept = new Kept();
        kept.folder = folder;
        kept.size = size;
        kept.digest = digest;
        kept.keys.addAll(List.of(a, b, c));
        kept.keys.remove(-1);
        kept.day = day;
        records.add(kept);
        today = day;
        write(5, records.size() - 1, folder, day);
        return records.size() - 1;
    }

    void hold(int hold, int folder, int cls, int key, int first, int last) {
        index(in(0, hold, 7) && in(-1, folder, 15) && in(-1, cls, 7));
        argument(in(-1, key, 99) && in(0, first, 120000) && in(0, last, 120000) && first <= last);
        state(!holds.containsKey(hold) && room(1));
        holds.put(hold, new HoldTerms(folder, cls, key, first, last));
        write(6, hold, folder + 1, cls + 1);
    }

    void lift(int hold) {
        index(in(0, hold, 7));
        state(holds.containsKey(hold) && room(1));
        holds.remove(hold);
        write(7, hold, 0, 0);
    }

    int covered(int record) {
        index(in(0, record, records.size() - 1));
        Kept kept = records.get(record);
        int n = 0;
        for (HoldTerms hold : holds.values()) {
            boolean folder = hold.folder == -1 || hold.folder == kept.folder;
            boolean cls = hold.cls == -1 || hold.cls == folders.get(kept.folder);
            boolean key = hold.key == -1 || kept.keys.contains(hold.key);
            n += folder && cls && key && in(hold.first, kept.day, hold.last) ? 1 : 0;
        }
        return n;
    }

    private static int number(LocalDate date) {
        return (int) ChronoUnit.DAYS.between(FIRST, date);
    }

    private int fiscalEnd(int day) {
        LocalDate date = FIRST.plusDays(day);
        LocalDate begin = LocalDate.of(date.getYear(), fiscal, 1);
        return number((date.isBefore(begin) ? begin : begin.plusYears(1)).minusDays(1));
    }

    int due(int record) {
        index(in(0, record, records.size() - 1));
        Kept kept = records.get(record);
        int cls = folders.get(kept.folder);
        int event = switch (events.get(cls)) {
            case 0 -> kept.day;
            case 1 -> closed.getOrDefault(kept.folder, -1);
            case 2 -> left.getOrDefault(kept.folder, -1);
            default -> fiscalEnd(kept.day);
        };
        if (event == -1) {
            return -1;
        }
        List<Version> all = versions.get(cls);
        int chosen = -1;
        for (int i = 0; i < all.size(); i++) {
            chosen = all.get(i).first <= event ? i : chosen;
        }
        chosen = chosen == -1 ? 0 : chosen;
        int behind = all.size() - 1;
        while (behind > chosen && !all.get(behind).forAll) {
            behind--;
        }
        return number(FIRST.plusDays(event).plusMonths(all.get(behind).months));
    }

    int record(int record, int what) {
        index(in(0, record, records.size() - 1));
        argument(in(0, what, 4));
        Kept kept = records.get(record);
        return new int[] {kept.folder, kept.day, kept.size, kept.gone ? 1 : 0, kept.keys.size()}[what];
    }

    long read(int record) {
        index(in(0, record, records.size() - 1));
        state(!records.get(record).gone);
        return records.get(record).digest;
    }

    int find(int key, int first, int last, int k) {
        argument(in(0, key, 99) && k >= 0);
        List<Integer> found = new ArrayList<>();
        for (int i = 0; i < records.size(); i++) {
            Kept kept = records.get(i);
            if (!kept.gone && kept.keys.contains(key) && in(first, kept.day, last)) {
                found.add(i);
            }
        }
        found.sort((x, y) -> records.get(x).day != records.get(y).day
                ? Integer.compare(records.get(x).day, records.get(y).day) : Integer.compare(x, y));
        return k < found.size() ? found.get(k) : -1;
    }

    private boolean mayGo(int record, int day) {
        int due = due(record);
        return !records.get(record).gone && due != -1 && due <= day && covered(record) == 0;
    }

    int draw(int officer, int day) {
        index(in(0, officer, 7));
        argument(now(day));
        Paper paper = new Paper();
        paper.by = officer;
        for (int i = 0; i < records.size(); i++) {
            if (mayGo(i, day)) {
                paper.rows.add(i);
            }
        }
        state(rights[officer] % 2 == 1 && !paper.rows.isEmpty() && lists.size() < 16 && room(1));
        lists.add(paper);
        today = day;
        write(8, lists.size() - 1, day, paper.rows.size());
        return lists.size() - 1;
    }

    int listed(int list, int i) {
        index(in(0, list, lists.size() - 1) && i >= 0);
        return i < lists.get(list).rows.size() ? lists.get(list).rows.get(i) : -1;
    }

    int approve(int list, int officer) {
        index(in(0, list, lists.size() - 1) && in(0, officer, 7));
        Paper paper = lists.get(list);
        state(!paper.carried && rights[officer] / 2 % 2 == 1 && paper.by != officer && room(1));
        state(paper.approvers.add(officer));
        write(9, list, officer, 0);
        return paper.approvers.size();
    }

    int strike(int list, int record) {
        index(in(0, list, lists.size() - 1) && lists.get(list).rows.contains(record));
        Paper paper = lists.get(list);
        state(!paper.carried && room(1));
        paper.rows.remove((Integer) record);
        write(10, list, record, 0);
        return paper.rows.size();
    }

    int carry(int list, int officer, int day) {
        index(in(0, list, lists.size() - 1) && in(0, officer, 7));
        argument(now(day));
        Paper paper = lists.get(list);
        state(!paper.carried && paper.approvers.size() >= 2 && rights[officer] / 4 == 1);
        List<Integer> going = new ArrayList<>();
        for (int record : paper.rows) {
            if (mayGo(record, day)) {
                going.add(record);
            }
        }
        state(room(going.size() + 1));
        for (int record : going) {
            records.get(record).gone = true;
            write(11, record, list, day);
        }
        paper.carried = true;
        today = day;
        write(12, list, day, paper.rows.size() - going.size());
        return going.size();
    }

    int count(int what) {
        argument(in(0, what, 4));
        int bytes = 0;
        for (Kept kept : records) {
            bytes += kept.gone ? 0 : kept.size;
        }
        return new int[] {records.size(), lists.size(), acts.size(), today, bytes}[what];
    }

    int act(int i, int what) {
        index(in(0, i, acts.size() - 1));
        argument(in(0, what, 3));
        return acts.get(i)[what];
    }

    long link(int i) {
        index(in(0, i, acts.size() - 1));
        return links.get(i);
    }

    void spoil(int i, int what, int v) {
        index(in(0, i, acts.size() - 1));
        argument(in(0, what, 3));
        acts.get(i)[what] = v;
    }

    int broken() {
        for (int i = 0; i < acts.size(); i++) {
            if (links.get(i) != tell(i)) {
                return i;
            }
        }
        return -1;
    }

    int later(int day, int years, int months) {
        argument(in(0, day, 120000) && in(0, years, 100) && in(0, months, 11));
        return number(FIRST.plusDays(day).plusMonths(12 * years + months));
    }
}
