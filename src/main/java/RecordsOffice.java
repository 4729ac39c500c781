/**
 * An office that keeps records as long as it must. The promises it keeps are told in DOC.md.
 *
 * <p>Every call that changes something first looks at all that could refuse it, in the order in which the document
 * names the exceptions, and only then changes anything: so a call that throws leaves everything as it was.
 */
public final class RecordsOffice {
    public static final int NONE = -1;

    private static final int CLASSES = 8;
    private static final int VERSIONS = 6;
    private static final int FOLDERS = 16;
    private static final int RECORDS = 64;
    private static final int HOLDS = 8;
    private static final int LISTS = 16;
    private static final int OFFICERS = 8;
    private static final int ACTS = 400;

    private static final int LAST_DAY = 120000;
    private static final int LAST_KEY = 99;
    private static final int MOST_BYTES = 65536;
    private static final int APPROVALS_NEEDED = 2;

    private static final int ON_FILING = 0;
    private static final int ON_CLOSING = 1;
    private static final int ON_LEAVING = 2;
    private static final int ON_FISCAL_END = 3;

    private static final int ALL_RIGHTS = 7;
    private static final int MAY_DRAW = 1;
    private static final int MAY_APPROVE = 2;
    private static final int MAY_CARRY = 4;

    private static final int VERSION_MADE = 1;
    private static final int FOLDER_OPENED = 2;
    private static final int FOLDER_CLOSED = 3;
    private static final int PERSON_LEFT = 4;
    private static final int RECORD_FILED = 5;
    private static final int HOLD_PLACED = 6;
    private static final int HOLD_LIFTED = 7;
    private static final int LIST_DRAWN = 8;
    private static final int LIST_APPROVED = 9;
    private static final int RECORD_STRUCK = 10;
    private static final int RECORD_DESTROYED = 11;
    private static final int LIST_CARRIED = 12;

    private final int[] rights = new int[OFFICERS];
    private final Schedule[] schedules = new Schedule[CLASSES];
    private final Folder[] folders = new Folder[FOLDERS];
    private final Hold[] holds = new Hold[HOLDS];
    private final Filed[] records = new Filed[RECORDS];
    private final DueList[] lists = new DueList[LISTS];
    private final Book book = new Book();
    private int recordCount;
    private int listCount;
    private int today;
    private int fiscalMonth = 1;

    public RecordsOffice() {
        for (int i = 0; i < CLASSES; i++) {
            schedules[i] = new Schedule();
        }
        for (int i = 0; i < HOLDS; i++) {
            holds[i] = new Hold();
        }
    }

    public void officer(int officer, int rights) throws IndexOutOfBoundsException, IllegalArgumentException {
        needOfficer(officer);
        if (rights < 0 || rights > ALL_RIGHTS) {
            throw new IllegalArgumentException("no such rights");
        }
        this.rights[officer] = rights;
    }

    public int version(int cls, int event, int years, int months, boolean forAll, int day)
            throws IndexOutOfBoundsException, IllegalArgumentException, IllegalStateException {
        needClass(cls);
        needTerm(years, months);
        needDay(day);
        Schedule schedule = schedules[cls];
        if (event < ON_FILING || event > ON_FISCAL_END || !schedule.goesOnWith(event, day)) {
            throw new IllegalArgumentException("not the class's event, or before its latest version");
        }
        needRoom(1);
        if (schedule.size >= VERSIONS) {
            throw new IllegalStateException("the class has all its versions");
        }
        int term = years * 12 + months;
        schedule.add(event, term, forAll, day);
        book.write(VERSION_MADE, cls, term, day, 0);
        return schedule.size;
    }

    public void fiscal(int month) throws IllegalArgumentException, IllegalStateException {
        if (month < 1 || month > 12) {
            throw new IllegalArgumentException("no such month");
        }
        if (recordCount > 0) {
            throw new IllegalStateException("a record was filed");
        }
        fiscalMonth = month;
    }

    public void open(int folder, int cls) throws IndexOutOfBoundsException, IllegalStateException {
        if (folder < 0 || folder >= FOLDERS) {
            throw new IndexOutOfBoundsException("no such folder");
        }
        needClass(cls);
        needRoom(1);
        if (folders[folder] != null || schedules[cls].size == 0) {
            throw new IllegalStateException("the folder is there, or its class has no version");
        }
        folders[folder] = new Folder(folder, cls);
        book.write(FOLDER_OPENED, folder, cls, 0, 0);
    }

    public void close(int folder, int day)
            throws IndexOutOfBoundsException, IllegalArgumentException, IllegalStateException {
        Folder told = folderAt(folder);
        needDayOfAct(day);
        needRoom(1);
        if (told.closedDay != NONE) {
            throw new IllegalStateException("the folder is closed");
        }
        told.closedDay = day;
        today = day;
        book.write(FOLDER_CLOSED, folder, day, 0, 0);
    }

    public void left(int folder, int day)
            throws IndexOutOfBoundsException, IllegalArgumentException, IllegalStateException {
        Folder told = folderAt(folder);
        needDayOfAct(day);
        needRoom(1);
        if (told.leftDay != NONE) {
            throw new IllegalStateException("the person left before");
        }
        told.leftDay = day;
        today = day;
        book.write(PERSON_LEFT, folder, day, 0, 0);
    }

    public int file(int folder, int size, long digest, int a, int b, int c, int day)
            throws IndexOutOfBoundsException, IllegalArgumentException, IllegalStateException {
        Folder told = folderAt(folder);
        needKeyOrNone(a);
        needKeyOrNone(b);
        needKeyOrNone(c);
        needDayOfAct(day);
        if (size < 1 || size > MOST_BYTES) {
            throw new IllegalArgumentException("no such size");
        }
        needRoom(1);
        if (told.closedDay != NONE || recordCount >= RECORDS) {
            throw new IllegalStateException("the folder is closed, or all records are there");
        }
        int number = recordCount;
        records[number] = new Filed(told, size, digest, a, b, c, day);
        recordCount++;
        today = day;
        book.write(RECORD_FILED, number, folder, day, digest);
        return number;
    }

    public void hold(int hold, int folder, int cls, int key, int first, int last)
            throws IndexOutOfBoundsException, IllegalArgumentException, IllegalStateException {
        needHold(hold);
        if (folder < NONE || folder >= FOLDERS) {
            throw new IndexOutOfBoundsException("no such folder");
        }
        if (cls != NONE) {
            needClass(cls);
        }
        needKeyOrNone(key);
        needDay(first);
        needDay(last);
        if (last < first) {
            throw new IllegalArgumentException("the last day is before the first one");
        }
        needRoom(1);
        if (holds[hold].placed) {
            throw new IllegalStateException("the hold is placed");
        }
        holds[hold].place(folder, cls, key, first, last);
        book.write(HOLD_PLACED, hold, folder + 1, cls + 1, 0);
    }

    public void lift(int hold) throws IndexOutOfBoundsException, IllegalStateException {
        needHold(hold);
        needRoom(1);
        if (!holds[hold].placed) {
            throw new IllegalStateException("the hold is not placed");
        }
        holds[hold].placed = false;
        book.write(HOLD_LIFTED, hold, 0, 0, 0);
    }

    public int covered(int record) throws IndexOutOfBoundsException {
        return holdsOver(recordAt(record));
    }

    public int due(int record) throws IndexOutOfBoundsException {
        return dueDay(recordAt(record));
    }

    public int record(int record, int what) throws IndexOutOfBoundsException, IllegalArgumentException {
        Filed told = recordAt(record);
        switch (what) {
            case 0:
                return told.folder.number;
            case 1:
                return told.day;
            case 2:
                return told.size;
            case 3:
                return told.destroyed ? 1 : 0;
            case 4:
                return told.keyCount();
            default:
                throw new IllegalArgumentException("nothing such is told of a record");
        }
    }

    public long read(int record) throws IndexOutOfBoundsException, IllegalStateException {
        Filed told = recordAt(record);
        if (told.destroyed) {
            throw new IllegalStateException("the record is destroyed");
        }
        return told.digest;
    }

    public int find(int key, int first, int last, int k) throws IllegalArgumentException {
        if (key < 0 || key > LAST_KEY || k < 0) {
            throw new IllegalArgumentException("no such key or place");
        }
        int before = 0;
        // No record is filed before the day of the office, so the order of numbers is that of days too.
        for (int i = 0; i < recordCount; i++) {
            Filed each = records[i];
            if (!each.destroyed && each.hasKey(key) && each.isFiledFrom(first, last)) {
                if (before == k) {
                    return i;
                }
                before++;
            }
        }
        return NONE;
    }

    public int draw(int officer, int day)
            throws IndexOutOfBoundsException, IllegalArgumentException, IllegalStateException {
        needOfficer(officer);
        needDayOfAct(day);
        needRight(officer, MAY_DRAW);
        needRoom(1);
        if (listCount >= LISTS) {
            throw new IllegalStateException("all lists are there");
        }
        long ripe = ripeOn(day);
        if (ripe == 0) {
            throw new IllegalStateException("no record is to be on the list");
        }
        int number = listCount;
        lists[number] = new DueList(officer, ripe);
        listCount++;
        today = day;
        book.write(LIST_DRAWN, number, day, lists[number].size(), 0);
        return number;
    }

    public int listed(int list, int i) throws IndexOutOfBoundsException {
        DueList told = listAt(list);
        if (i < 0) {
            throw new IndexOutOfBoundsException("no such place on a list");
        }
        return told.recordAtPlace(i);
    }

    public int approve(int list, int officer) throws IndexOutOfBoundsException, IllegalStateException {
        DueList told = listAt(list);
        needOfficer(officer);
        needOpen(told);
        needRight(officer, MAY_APPROVE);
        needRoom(1);
        if (told.drawnBy == officer || told.isApprovedBy(officer)) {
            throw new IllegalStateException("the officer drew the list up, or approved it already");
        }
        told.addApproval(officer);
        book.write(LIST_APPROVED, list, officer, 0, 0);
        return told.approvals();
    }

    public int strike(int list, int record) throws IndexOutOfBoundsException, IllegalStateException {
        DueList told = listAt(list);
        if (!told.has(record)) {
            throw new IndexOutOfBoundsException("the record is not on the list");
        }
        needOpen(told);
        needRoom(1);
        told.remove(record);
        book.write(RECORD_STRUCK, list, record, 0, 0);
        return told.size();
    }

    public int carry(int list, int officer, int day)
            throws IndexOutOfBoundsException, IllegalArgumentException, IllegalStateException {
        DueList told = listAt(list);
        needOfficer(officer);
        needDayOfAct(day);
        needOpen(told);
        needRight(officer, MAY_CARRY);
        if (told.approvals() < APPROVALS_NEEDED) {
            throw new IllegalStateException("too few approved the list");
        }
        long going = told.members & ripeOn(day);
        int destroyed = Long.bitCount(going);
        needRoom(destroyed + 1);
        destroyAll(going, list, day);
        told.isOpen = false;
        today = day;
        book.write(LIST_CARRIED, list, day, told.size() - destroyed, 0);
        return destroyed;
    }

    public int count(int what) throws IllegalArgumentException {
        switch (what) {
            case 0:
                return recordCount;
            case 1:
                return listCount;
            case 2:
                return book.size;
            case 3:
                return today;
            case 4:
                return bytesKept();
            default:
                throw new IllegalArgumentException("nothing such is counted");
        }
    }

    public int act(int i, int what) throws IndexOutOfBoundsException, IllegalArgumentException {
        needAct(i);
        needNumberOfAct(what);
        return book.number(i, what);
    }

    public long link(int i) throws IndexOutOfBoundsException {
        needAct(i);
        return book.links[i];
    }

    public void spoil(int i, int what, int v) throws IndexOutOfBoundsException, IllegalArgumentException {
        needAct(i);
        needNumberOfAct(what);
        book.setNumber(i, what, v);
    }

    public int broken() {
        for (int i = 0; i < book.size; i++) {
            if (book.links[i] != book.linkFor(i, digestOf(book.number(i, 1)))) {
                return i;
            }
        }
        return NONE;
    }

    public int later(int day, int years, int months) throws IllegalArgumentException {
        needDay(day);
        needTerm(years, months);
        return Days.plus(day, years * 12 + months);
    }

    private static void needClass(int cls) {
        if (cls < 0 || cls >= CLASSES) {
            throw new IndexOutOfBoundsException("no such class");
        }
    }

    private static void needHold(int hold) {
        if (hold < 0 || hold >= HOLDS) {
            throw new IndexOutOfBoundsException("no such hold");
        }
    }

    private static void needOfficer(int officer) {
        if (officer < 0 || officer >= OFFICERS) {
            throw new IndexOutOfBoundsException("no such officer");
        }
    }

    private void needAct(int i) {
        if (i < 0 || i >= book.size) {
            throw new IndexOutOfBoundsException("no such act");
        }
    }

    private Folder folderAt(int folder) {
        if (folder < 0 || folder >= FOLDERS || folders[folder] == null) {
            throw new IndexOutOfBoundsException("no such folder");
        }
        return folders[folder];
    }

    private Filed recordAt(int record) {
        if (record < 0 || record >= recordCount) {
            throw new IndexOutOfBoundsException("no such record");
        }
        return records[record];
    }

    private DueList listAt(int list) {
        if (list < 0 || list >= listCount) {
            throw new IndexOutOfBoundsException("no such list");
        }
        return lists[list];
    }

    private static void needTerm(int years, int months) {
        if (years < 0 || years > 100 || months < 0 || months > 11) {
            throw new IllegalArgumentException("no such term");
        }
    }

    private static void needDay(int day) {
        if (day < 0 || day > LAST_DAY) {
            throw new IllegalArgumentException("no such day");
        }
    }

    private void needDayOfAct(int day) {
        needDay(day);
        if (day < today) {
            throw new IllegalArgumentException("a day before that of the office");
        }
    }

    private static void needKeyOrNone(int key) {
        if (key < NONE || key > LAST_KEY) {
            throw new IllegalArgumentException("no such key");
        }
    }

    private static void needNumberOfAct(int what) {
        if (what < 0 || what >= Book.NUMBERS) {
            throw new IllegalArgumentException("an act has no such number");
        }
    }

    private void needRoom(int acts) {
        if (ACTS - book.size < acts) {
            throw new IllegalStateException("no room in the book");
        }
    }

    private void needRight(int officer, int right) {
        if ((rights[officer] & right) == 0) {
            throw new IllegalStateException("the officer has not the right");
        }
    }

    private static void needOpen(DueList list) {
        if (!list.isOpen) {
            throw new IllegalStateException("the list is not open");
        }
    }

    private int holdsOver(Filed record) {
        int covering = 0;
        for (int i = 0; i < HOLDS; i++) {
            if (holds[i].covers(record)) {
                covering++;
            }
        }
        return covering;
    }

    private int eventDay(Filed record) {
        switch (schedules[record.folder.cls].event) {
            case ON_CLOSING:
                return record.folder.closedDay;
            case ON_LEAVING:
                return record.folder.leftDay;
            case ON_FISCAL_END:
                return Days.fiscalEnd(record.day, fiscalMonth);
            default:
                return record.day;
        }
    }

    private int dueDay(Filed record) {
        int event = eventDay(record);
        if (event == NONE) {
            return NONE;
        }
        return Days.plus(event, schedules[record.folder.cls].termFor(event));
    }

    /** The records that may be destroyed on a day: record i is bit i, so the bits upward are the records in order. */
    private long ripeOn(int day) {
        long ripe = 0;
        for (int i = 0; i < recordCount; i++) {
            Filed each = records[i];
            if (!each.destroyed && holdsOver(each) == 0) {
                int due = dueDay(each);
                if (due != NONE && due <= day) {
                    ripe |= 1L << i;
                }
            }
        }
        return ripe;
    }

    private void destroyAll(long going, int list, int day) {
        for (int i = 0; i < recordCount; i++) {
            if ((going >>> i & 1) != 0) {
                records[i].destroyed = true;
                book.write(RECORD_DESTROYED, i, list, day, records[i].digest);
            }
        }
    }

    private int bytesKept() {
        int bytes = 0;
        for (int i = 0; i < recordCount; i++) {
            if (!records[i].destroyed) {
                bytes += records[i].size;
            }
        }
        return bytes;
    }

    /** The digest also of a destroyed record; 0 for a number that is no record's, as a spoilt act may have. */
    private long digestOf(int record) {
        return record >= 0 && record < recordCount ? records[record].digest : 0;
    }

    /** The calendar. A month is told by how many months it comes after January 1900. */
    private static final class Days {
        private static final int[] BEFORE_MONTH = {0, 31, 59, 90, 120, 151, 181, 212, 243, 273, 304, 334};
        private static final int LEAP_DAYS_BEFORE_1900 = 460;

        static int firstOf(int month) {
            int years = month / 12;
            int monthOfYear = month % 12;
            // The leap day of the month's own year is behind it only if February is.
            int lastCounted = monthOfYear < 2 ? 1899 + years : 1900 + years;
            int leapDays = lastCounted / 4 - lastCounted / 100 + lastCounted / 400 - LEAP_DAYS_BEFORE_1900;
            return 365 * years + BEFORE_MONTH[monthOfYear] + leapDays;
        }

        static int monthOf(int day) {
            // Years of 366 days come out right or, for all days that can come up, one too low. So at most two years are
            // left; their months are a fortnight shorter than 31 days each, so the month too is one too low at most.
            int month = day / 366 * 12;
            month += (day - firstOf(month)) / 31;
            return firstOf(month + 1) <= day ? month + 1 : month;
        }

        static int plus(int day, int term) {
            int from = monthOf(day);
            int sameNumber = firstOf(from + term) + (day - firstOf(from));
            int lastOfMonth = firstOf(from + term + 1) - 1;
            return Math.min(sameNumber, lastOfMonth);
        }

        static int fiscalEnd(int day, int firstMonth) {
            int month = monthOf(day);
            int monthsSinceBegin = (month + 13 - firstMonth) % 12;
            return firstOf(month - monthsSinceBegin + 12) - 1;
        }
    }

    /** The versions of a class. */
    private static final class Schedule {
        final int[] firstDays = new int[VERSIONS];
        final int[] terms = new int[VERSIONS];
        final boolean[] forAll = new boolean[VERSIONS];
        int event;
        int size;

        boolean goesOnWith(int nextEvent, int day) {
            return size == 0 || nextEvent == event && day >= firstDays[size - 1];
        }

        void add(int nextEvent, int term, boolean isForAll, int day) {
            event = nextEvent;
            firstDays[size] = day;
            terms[size] = term;
            forAll[size] = isForAll;
            size++;
        }

        int termFor(int eventDay) {
            int chosen = 0;
            // First days never go down, so the versions not behind the event's day come before all others, and the
            // last one that is either of the two is the one that the document names.
            for (int i = 1; i < size; i++) {
                if (firstDays[i] <= eventDay || forAll[i]) {
                    chosen = i;
                }
            }
            return terms[chosen];
        }
    }

    private static final class Folder {
        final int number;
        final int cls;
        int closedDay = NONE;
        int leftDay = NONE;

        Folder(int number, int cls) {
            this.number = number;
            this.cls = cls;
        }
    }

    private static final class Filed {
        final Folder folder;
        final int size;
        final long digest;
        final int a;
        final int b;
        final int c;
        final int day;
        boolean destroyed;

        Filed(Folder folder, int size, long digest, int a, int b, int c, int day) {
            this.folder = folder;
            this.size = size;
            this.digest = digest;
            this.a = a;
            this.b = b;
            this.c = c;
            this.day = day;
        }

        boolean hasKey(int key) {
            return a == key || b == key || c == key;
        }

        int keyCount() {
            int different = a == NONE ? 0 : 1;
            if (b != NONE && b != a) {
                different++;
            }
            if (c != NONE && c != a && c != b) {
                different++;
            }
            return different;
        }

        boolean isFiledFrom(int first, int last) {
            return first <= day && day <= last;
        }
    }

    private static final class Hold {
        boolean placed;
        int folder;
        int cls;
        int key;
        int first;
        int last;

        void place(int newFolder, int newCls, int newKey, int newFirst, int newLast) {
            placed = true;
            folder = newFolder;
            cls = newCls;
            key = newKey;
            first = newFirst;
            last = newLast;
        }

        boolean covers(Filed record) {
            return placed
                    && (folder == NONE || folder == record.folder.number)
                    && (cls == NONE || cls == record.folder.cls)
                    && (key == NONE || record.hasKey(key))
                    && record.isFiledFrom(first, last);
        }
    }

    /** A list of what is due. Record i is bit i of its members, officer i bit i of its approvers. */
    private static final class DueList {
        final int drawnBy;
        long members;
        int approvers;
        boolean isOpen = true;

        DueList(int drawnBy, long members) {
            this.drawnBy = drawnBy;
            this.members = members;
        }

        int size() {
            return Long.bitCount(members);
        }

        boolean has(int record) {
            return record >= 0 && record < RECORDS && (members >>> record & 1) != 0;
        }

        void remove(int record) {
            members &= ~(1L << record);
        }

        int recordAtPlace(int place) {
            int before = 0;
            for (int record = 0; record < RECORDS; record++) {
                if (has(record)) {
                    if (before == place) {
                        return record;
                    }
                    before++;
                }
            }
            return NONE;
        }

        boolean isApprovedBy(int officer) {
            return (approvers >>> officer & 1) != 0;
        }

        void addApproval(int officer) {
            approvers |= 1 << officer;
        }

        int approvals() {
            return Integer.bitCount(approvers);
        }
    }

    /** The acts in one row of numbers, four an act: its kind and its three numbers. */
    private static final class Book {
        static final int NUMBERS = 4;
        private static final long FACTOR = 7046029254386353131L;

        final int[] numbers = new int[NUMBERS * ACTS];
        final long[] links = new long[ACTS];
        int size;

        int number(int i, int what) {
            return numbers[NUMBERS * i + what];
        }

        void setNumber(int i, int what, int v) {
            numbers[NUMBERS * i + what] = v;
        }

        /** Writes an act for which there is room. The digest counts only for the kinds that have one. */
        void write(int kind, int a, int b, int c, long digest) {
            int i = size;
            setNumber(i, 0, kind);
            setNumber(i, 1, a);
            setNumber(i, 2, b);
            setNumber(i, 3, c);
            links[i] = linkFor(i, digest);
            size++;
        }

        long linkFor(int i, long digest) {
            long x = i == 0 ? 0 : links[i - 1];
            for (int what = 0; what < NUMBERS; what++) {
                x = mix(x, number(i, what));
            }
            int kind = number(i, 0);
            return kind == RECORD_FILED || kind == RECORD_DESTROYED ? mix(x, digest) : x;
        }

        private static long mix(long x, long it) {
            long product = (x ^ it) * FACTOR;
            return product ^ product >>> 29;
        }
    }
}
