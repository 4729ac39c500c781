/** The boundary cases of the book (Terms) and of promises 21 (count) to 26 (later). */
public final class BookEdgesTest {
    private static final Edges edges = new Edges();
    private static final Recipe NEW = RecordsOffice::new;
    /** Acts 0 and 1 are class 0's version and folder 0's opening. */
    private static final Recipe FOLDER = () -> Offices.withRecords(0);
    private static final Recipe FILED = () -> Offices.withRecords(3);
    /** Officer 0 draws up, 3 may approve list 0, 4 carries out; hold 1 is placed; list 1 is empty and approved. */
    private static final Recipe READY = () -> {
        RecordsOffice x = Offices.withApprovedList(1);
        x.draw(0, 100);
        x.approve(1, 1);
        x.approve(1, 2);
        x.strike(1, 0);
        x.hold(1, -1, -1, -1, 50, 50);
        return x;
    };
    /** A call for each kind of act, in the order of the kinds; the last one destroys nothing. */
    private static final Recipe.Deed[] WRITING = {
        x -> x.version(0, 0, 0, 0, false, 0),
        x -> x.open(1, 0),
        x -> x.close(0, 100),
        x -> x.left(0, 100),
        x -> x.file(0, 1, 1, -1, -1, -1, 100),
        x -> x.hold(2, -1, -1, -1, 0, 0),
        x -> x.lift(1),
        x -> x.draw(0, 100),
        x -> x.approve(0, 3),
        x -> x.strike(0, 0),
        x -> x.carry(1, 4, 100),
    };

    public static void main(String[] args) {
        edges.promise("Terms, the book");
        edges.sentence("THE BOOK has ACTS, at most 400", BookEdgesTest::fourHundredActs);
        edges.sentence("each a kind and three numbers, and its LINK", BookEdgesTest::eachKind);
        edges.sentence("begin with that of the act before (0 for the first one)", BookEdgesTest::linkOfTheFirst);
        edges.sentence("(for kinds 5 and 11) the record's DIGEST, in turn", BookEdgesTest::linksWithDigests);
        edges.sentence("x becomes (x exclusive-or it) * 7046029254386353131", BookEdgesTest::linksWrapAround);
        edges.sentence("x exclusive-or x shifted down by 29 without sign", BookEdgesTest::shiftedWithoutSign);
        edges.sentence("Every call that would write more acts than there is room for is refused as a whole.",
                BookEdgesTest::refusedAsAWhole);
        edges.sentence("or there is no room (also in the book)", BookEdgesTest::noRoomIsLookedAtLast);

        edges.promise("Promise 21: count");
        edges.sentence("How many records (what = 0)", BookEdgesTest::countsRecords);
        edges.sentence("lists (1)", BookEdgesTest::countsLists);
        edges.sentence("acts (2)", BookEdgesTest::countsActs);
        edges.sentence("the DAY of the office (3)", BookEdgesTest::countsDays);
        edges.sentence("bytes of records that are not destroyed (4)", BookEdgesTest::countsBytes);
        edges.sentence("IllegalArgumentException: another what.", BookEdgesTest::countsNothingElse);

        edges.promise("Promise 22: act");
        edges.sentence("its kind (what = 0), its three numbers (1, 2, 3)", BookEdgesTest::numbersOfAnAct);
        edges.sentence("IndexOutOfBoundsException", BookEdgesTest::noSuchAct);
        edges.sentence("IllegalArgumentException: another what.", BookEdgesTest::anotherWhatOfAnAct);
        edges.sentence("of several exceptions the one named first is thrown", BookEdgesTest::actInOrder);

        edges.promise("Promise 23: link");
        edges.sentence("The LINK of act i.", BookEdgesTest::linkOfEach);
        edges.sentence("IndexOutOfBoundsException.", BookEdgesTest::linkOfNoSuchAct);

        edges.promise("Promise 24: spoil");
        edges.sentence("number what (0 .. 3) becomes v", BookEdgesTest::becomes);
        edges.sentence("A number of act i is spoilt", BookEdgesTest::nothingElseIsSpoilt);
        edges.sentence("IndexOutOfBoundsException", BookEdgesTest::spoilsNoSuchAct);
        edges.sentence("IllegalArgumentException: another what.", BookEdgesTest::spoilsNothingElse);
        edges.sentence("of several exceptions the one named first is thrown", BookEdgesTest::spoilInOrder);

        edges.promise("Promise 25: broken");
        edges.sentence("The first act whose LINK is not what the one before and its kind and numbers tell",
                BookEdgesTest::firstBroken);
        edges.sentence("what the one before and its kind and numbers tell", BookEdgesTest::kindTellsOfTheDigest);
        edges.sentence("with the DIGEST of the record whose number stands there now", BookEdgesTest::digestOfAnother);
        edges.sentence("0 if there is none", BookEdgesTest::digestOfNone);
        edges.sentence("NONE if all are right", BookEdgesTest::allAreRight);

        edges.promise("Promise 26: later");
        edges.sentence("A day and a TERM.", BookEdgesTest::dayAndTerm);
        edges.sentence("IllegalArgumentException: day is not 0 .. 120000", BookEdgesTest::laterThanNoDay);
        edges.sentence("or the term is none", BookEdgesTest::laterByNoTerm);
        edges.end();
    }

    private static void fourHundredActs() {
        Recipe almostFull = READY.withActs(399);
        Recipe full = READY.withActs(400);
        edges.gives(399, almostFull, x -> x.count(2));
        for (int i = 0; i < WRITING.length; i++) {
            edges.state(full, WRITING[i]);
            RecordsOffice x = almostFull.then(WRITING[i]).make();
            edges.is(400, x.count(2));
            // Kind 11 is left out: a record is destroyed only with a list carried out.
            edges.is(i == 10 ? 12 : i + 1, x.act(399, 0));
            edges.is(-1, x.broken());
        }
        // What writes no act needs no room.
        edges.takes(full, x -> x.officer(0, 7));
        edges.takes(full, x -> x.spoil(399, 0, 0));
        edges.takes(NEW.withActs(400), x -> x.fiscal(12));
        edges.gives(0, full, x -> x.due(0));
        edges.gives(0, full, x -> x.find(0, 0, 120000, 0));
        edges.gives(400, full, x -> x.count(2));
    }

    private static void eachKind() {
        RecordsOffice x = new RecordsOffice();
        x.version(7, 0, 2, 5, false, 40);
        x.open(15, 7);
        x.file(15, 1, 1, -1, -1, -1, 40);
        x.file(15, 1, 1, -1, -1, -1, 41);
        x.file(15, 1, 1, -1, -1, -1, 42);
        x.hold(6, 15, -1, -1, 41, 41);
        x.lift(6);
        x.left(15, 42);
        x.close(15, 43);
        x.officer(5, 5);
        x.officer(6, 2);
        x.officer(7, 2);
        x.draw(5, 2000);
        x.approve(0, 7);
        x.approve(0, 6);
        x.strike(0, 0);
        x.hold(7, -1, 7, -1, 41, 41);
        x.carry(0, 5, 2001);
        String[] acts = {
            "1 7 29 40", "2 15 7 0", "5 0 15 40", "5 1 15 41", "5 2 15 42", "6 6 16 0", "7 6 0 0", "4 15 42 0",
            "3 15 43 0", "8 0 2000 3", "9 0 7 0", "9 0 6 0", "10 0 0 0", "6 7 0 8", "11 2 0 2001", "12 0 2001 1",
        };
        edges.is(acts.length, x.count(2));
        for (int i = 0; i < acts.length; i++) {
            edges.same(acts[i], Offices.act(x, i));
        }
    }

    private static void linkOfTheFirst() {
        Recipe first = NEW.then(x -> x.version(0, 0, 10, 0, false, 0));
        edges.gives(Links.behind(0, 1, 0, 120, 0), first, x -> x.link(0));
        Recipe hold = NEW.then(x -> x.hold(7, 15, 7, -1, 0, 0));
        edges.gives(Links.behind(0, 6, 7, 16, 8), hold, x -> x.link(0));
        long before = hold.make().link(0);
        edges.gives(Links.behind(before, 7, 7, 0, 0), hold.then(x -> x.lift(7)), x -> x.link(1));
        RecordsOffice full = NEW.withActs(400).make();
        edges.is(Links.behind(full.link(398), 7, 7, 0, 0), full.link(399));
    }

    private static void linksWithDigests() {
        for (long digest : new long[] {0, 1, -1, 77, Long.MIN_VALUE, Long.MAX_VALUE}) {
            RecordsOffice x = FOLDER.make();
            x.file(0, 1, digest, -1, -1, -1, 0);
            x.file(0, 1, 4711, -1, -1, -1, 0);
            x.officer(0, 5);
            x.officer(1, 2);
            x.officer(2, 2);
            x.hold(0, -1, -1, -1, 9, 9);
            x.draw(0, 5);
            x.approve(0, 1);
            x.approve(0, 2);
            x.strike(0, 1);
            x.left(0, 6);
            x.close(0, 7);
            x.lift(0);
            x.carry(0, 0, 8);
            linksAreRight(x, digest, 4711);
        }
    }

    private static void linksAreRight(RecordsOffice x, long... digests) {
        long link = 0;
        for (int i = 0; i < x.count(2); i++) {
            int kind = x.act(i, 0);
            link = Links.behind(link, kind, x.act(i, 1), x.act(i, 2), x.act(i, 3));
            if (kind == 5 || kind == 11) {
                link = Links.mix(link, digests[x.act(i, 1)]);
            }
            edges.is(link, x.link(i));
        }
    }

    private static void linksWrapAround() {
        RecordsOffice x = new RecordsOffice();
        x.version(0, 0, 10, 0, false, 0);
        x.open(0, 0);
        x.file(0, 100, 77, 1, 2, 2, 40000);
        edges.is(-4338181696145131122L, x.link(0));
        edges.is(-7212435632168327669L, x.link(1));
        edges.is(-288270487777335995L, x.link(2));
        RecordsOffice full = NEW.withActs(400).make();
        edges.is(-1, full.broken());
        long link = 0;
        for (int i = 0; i < 400; i += 2) {
            link = Links.behind(link, 6, 7, 16, 8);
            link = Links.behind(link, 7, 7, 0, 0);
        }
        edges.is(link, full.link(399));
    }

    private static void shiftedWithoutSign() {
        long told = Links.behind(FOLDER.make().link(1), 5, 0, 0, 0);
        long[][] productsAndLinks = {
            {0, 0}, {1, 1}, {1L << 29, (1L << 29) + 1}, {-1, 0xFFFFFFF800000000L},
            {Long.MIN_VALUE, 0x8000000400000000L}, {Long.MAX_VALUE, 0x7FFFFFFC00000000L},
        };
        for (long[] each : productsAndLinks) {
            long digest = told ^ Links.beforeProduct(each[0]);
            edges.gives(each[1], FOLDER.then(x -> x.file(0, 1, digest, -1, -1, -1, 0)), x -> x.link(2));
        }
    }

    private static void refusedAsAWhole() {
        Recipe three = () -> Offices.withApprovedList(3);
        edges.gives(3, three.withActs(396), x -> x.carry(0, 4, 110));
        edges.gives(400, three.withActs(396).then(x -> x.carry(0, 4, 110)), x -> x.count(2));
        for (int acts = 397; acts <= 400; acts++) {
            edges.state(three.withActs(acts), x -> x.carry(0, 4, 110));
        }
        Recipe all = () -> Offices.withApprovedList(64);
        edges.gives(64, all.withActs(335), x -> x.carry(0, 4, 110));
        edges.state(all.withActs(336), x -> x.carry(0, 4, 110));
        // Records that are skipped, struck or not on the list need no room.
        Recipe held = three.then(x -> x.hold(0, -1, -1, -1, 1, 1));
        edges.gives(2, held.withActs(397), x -> x.carry(0, 4, 110));
        edges.state(held.withActs(398), x -> x.carry(0, 4, 110));
        Recipe struck = three.then(x -> x.strike(0, 0)).then(x -> x.strike(0, 1)).then(x -> x.strike(0, 2));
        edges.gives(0, struck.withActs(399), x -> x.carry(0, 4, 110));
        edges.state(struck.withActs(400), x -> x.carry(0, 4, 110));
    }

    private static void noRoomIsLookedAtLast() {
        Recipe full = READY.withActs(400);
        edges.index(full, x -> x.version(8, 0, 0, 0, false, 0));
        edges.argument(full, x -> x.version(0, 1, 0, 0, false, 0));
        edges.index(full, x -> x.open(16, 0));
        edges.index(full, x -> x.close(1, 100));
        edges.argument(full, x -> x.close(0, 99));
        edges.index(full, x -> x.left(1, 100));
        edges.argument(full, x -> x.left(0, 99));
        edges.index(full, x -> x.file(1, 1, 1, -1, -1, -1, 100));
        edges.argument(full, x -> x.file(0, 0, 1, -1, -1, -1, 100));
        edges.index(full, x -> x.hold(8, -1, -1, -1, 0, 0));
        edges.argument(full, x -> x.hold(2, -1, -1, 100, 0, 0));
        edges.index(full, x -> x.lift(8));
        edges.index(full, x -> x.draw(8, 100));
        edges.argument(full, x -> x.draw(0, 99));
        edges.index(full, x -> x.approve(2, 3));
        edges.index(full, x -> x.strike(0, 1));
        edges.index(full, x -> x.carry(2, 4, 100));
        edges.argument(full, x -> x.carry(1, 4, 99));
    }

    private static void countsRecords() {
        for (int records : new int[] {0, 1, 63, 64}) {
            Recipe some = () -> Offices.withRecords(records);
            edges.gives(records, some, x -> x.count(0));
        }
        Recipe listed = () -> Offices.withApprovedList(3);
        edges.gives(3, listed.then(x -> x.carry(0, 4, 100)), x -> x.count(0));
    }

    private static void countsLists() {
        edges.gives(0, FILED, x -> x.count(1));
        Recipe listed = () -> Offices.withApprovedList(3);
        edges.gives(1, listed, x -> x.count(1));
        edges.gives(1, listed.then(x -> x.carry(0, 4, 100)), x -> x.count(1));
        Recipe sixteen = listed.then(x -> {
            for (int list = 1; list < 16; list++) {
                x.draw(0, 100);
            }
        });
        edges.gives(16, sixteen, x -> x.count(1));
    }

    private static void countsActs() {
        edges.gives(0, NEW, x -> x.count(2));
        edges.gives(0, NEW.then(x -> x.officer(0, 7)).then(x -> x.fiscal(3)), x -> x.count(2));
        edges.gives(1, NEW.then(x -> x.version(0, 0, 0, 0, false, 0)), x -> x.count(2));
        edges.gives(399, NEW.withActs(399), x -> x.count(2));
        edges.gives(400, NEW.withActs(400), x -> x.count(2));
        Recipe listed = () -> Offices.withApprovedList(3);
        edges.gives(listed.make().count(2) + 4, listed.then(x -> x.carry(0, 4, 100)), x -> x.count(2));
    }

    private static void countsDays() {
        edges.gives(0, NEW, x -> x.count(3));
        edges.gives(0, FOLDER.then(x -> x.close(0, 0)), x -> x.count(3));
        edges.gives(1, FOLDER.then(x -> x.close(0, 1)), x -> x.count(3));
        edges.gives(120000, FOLDER.then(x -> x.left(0, 120000)), x -> x.count(3));
    }

    private static void countsBytes() {
        edges.gives(0, FOLDER, x -> x.count(4));
        edges.gives(1, FOLDER.then(x -> Offices.fileOn(x, 0, 0)), x -> x.count(4));
        Recipe most = FOLDER.then(x -> {
            for (int i = 0; i < 64; i++) {
                x.file(0, 65536, 1, -1, -1, -1, 0);
            }
        });
        edges.gives(64 * 65536, most, x -> x.count(4));
        Recipe listed = () -> Offices.withApprovedList(3);
        edges.gives(6, listed, x -> x.count(4));
        edges.gives(0, listed.then(x -> x.carry(0, 4, 100)), x -> x.count(4));
        Recipe held = listed.then(x -> x.hold(0, -1, -1, -1, 1, 1));
        edges.gives(2, held.then(x -> x.carry(0, 4, 100)), x -> x.count(4));
    }

    private static void countsNothingElse() {
        edges.argumentOutside(0, 4, NEW, (x, what) -> x.count(what));
        edges.argumentOutside(0, 4, READY, (x, what) -> x.count(what));
    }

    private static void numbersOfAnAct() {
        for (int what = 0; what < 4; what++) {
            int each = what;
            edges.gives(new int[] {5, 2, 0, 2}[what], FILED, x -> x.act(4, each));
            edges.gives(new int[] {1, 0, 0, 0}[what], FILED, x -> x.act(0, each));
        }
    }

    private static void noSuchAct() {
        edges.indexOutside(0, 4, FILED, (x, i) -> x.act(i, 0));
        edges.indexOutside(0, 399, FILED.withActs(400), (x, i) -> x.act(i, 3));
        edges.index(NEW, x -> x.act(0, 0));
    }

    private static void anotherWhatOfAnAct() {
        edges.argumentOutside(0, 3, FILED, (x, what) -> x.act(0, what));
        edges.argumentOutside(0, 3, FILED, (x, what) -> x.act(4, what));
        edges.argumentOutside(0, 3, FILED.withActs(400), (x, what) -> x.act(399, what));
    }

    private static void actInOrder() {
        new Refusals(edges, (x, n) -> x.act(n[0], n[1]), 0, 0)
                .index(0, -1, 5, 400)
                .argument(1, -1, 4)
                .takenIn(FILED)
                .check();
    }

    private static void linkOfEach() {
        linksAreRight(FILED.make(), 1000, 1001, 1002);
        RecordsOffice full = NEW.withActs(400).make();
        edges.is(Links.behind(0, 6, 7, 16, 8), full.link(0));
        edges.is(Links.behind(full.link(398), 7, 7, 0, 0), full.link(399));
    }

    private static void linkOfNoSuchAct() {
        edges.indexOutside(0, 4, FILED, (x, i) -> x.link(i));
        edges.indexOutside(0, 399, FILED.withActs(400), (x, i) -> x.link(i));
        edges.index(NEW, x -> x.link(0));
    }

    private static void becomes() {
        for (int what = 0; what < 4; what++) {
            int each = what;
            for (int v : new int[] {Integer.MIN_VALUE, -1, 0, 13, 65, Integer.MAX_VALUE}) {
                edges.gives(v, FILED.then(x -> x.spoil(0, each, v)), x -> x.act(0, each));
                edges.gives(v, FILED.then(x -> x.spoil(4, each, v)), x -> x.act(4, each));
                edges.gives(v, FILED.withActs(400).then(x -> x.spoil(399, each, v)), x -> x.act(399, each));
            }
        }
    }

    private static void nothingElseIsSpoilt() {
        String before = Probe.of(FILED);
        for (int what = 0; what < 4; what++) {
            int each = what;
            int old = FILED.make().act(3, what);
            Recipe thereAndBack = FILED.then(x -> x.spoil(3, each, 119999)).then(x -> x.spoil(3, each, old));
            edges.same(before, Probe.of(thereAndBack));
        }
        Recipe spoilt = FILED.then(x -> {
            for (int i = 0; i < 20; i++) {
                x.spoil(i / 4, i % 4, 119999);
            }
        });
        for (int i = 0; i < 5; i++) {
            int each = i;
            edges.gives(FILED.make().link(i), spoilt, x -> x.link(each));
        }
        edges.gives(2, spoilt, x -> x.count(3));
        edges.gives(5, spoilt, x -> x.count(2));
        edges.gives(6, spoilt, x -> x.count(4));
        edges.gives(2, spoilt, x -> x.due(2));
        edges.gives(1002, spoilt, x -> x.read(2));
        edges.gives(3, spoilt, x -> Offices.fileOn(x, 0, 2));
        // The act behind it begins with the link that stands there.
        Recipe behind = spoilt.then(x -> x.hold(0, -1, -1, -1, 0, 0));
        edges.gives(Links.behind(FILED.make().link(4), 6, 0, 0, 0), behind, x -> x.link(5));
    }

    private static void spoilsNoSuchAct() {
        edges.indexOutside(0, 4, FILED, (x, i) -> x.spoil(i, 0, 7));
        edges.indexOutside(0, 399, FILED.withActs(400), (x, i) -> x.spoil(i, 3, 7));
        edges.index(NEW, x -> x.spoil(0, 0, 7));
    }

    private static void spoilsNothingElse() {
        edges.argumentOutside(0, 3, FILED, (x, what) -> x.spoil(0, what, 7));
        edges.argumentOutside(0, 3, FILED, (x, what) -> x.spoil(4, what, 7));
    }

    private static void spoilInOrder() {
        new Refusals(edges, (x, n) -> x.spoil(n[0], n[1], 7), 0, 0)
                .index(0, -1, 5, 400)
                .argument(1, -1, 4)
                .takenIn(FILED)
                .check();
    }

    private static void firstBroken() {
        for (int i = 0; i < 5; i++) {
            for (int what = 0; what < 4; what++) {
                int act = i;
                int number = what;
                Recipe spoilt = FILED.then(x -> x.spoil(act, number, x.act(act, number) + 1));
                edges.gives(i, spoilt, x -> x.broken());
                // Of two the first one, whichever was spoilt first.
                edges.gives(0, spoilt.then(x -> x.spoil(0, 3, 9)), x -> x.broken());
                edges.gives(i, spoilt.then(x -> x.spoil(4, 3, 9)), x -> x.broken());
                edges.gives(i, spoilt.then(x -> x.hold(0, -1, -1, -1, 0, 0)), x -> x.broken());
            }
        }
        edges.gives(399, FILED.withActs(400).then(x -> x.spoil(399, 1, 6)), x -> x.broken());
        edges.gives(0, FILED.withActs(400).then(x -> x.spoil(0, 1, 6)), x -> x.broken());
    }

    /** The digest with which record 0, filed on day 0 as act 2, gets a link that is right for other numbers too. */
    private static long digestGiving(long link) {
        long told = Links.behind(FOLDER.make().link(1), 5, 0, 0, 0);
        return told ^ Links.unmix(link);
    }

    private static Recipe withDigest(long digest) {
        return FOLDER.then(x -> x.file(0, 1, digest, -1, -1, -1, 0)).then(x -> x.file(0, 1, 4711, -1, -1, -1, 0));
    }

    private static void kindTellsOfTheDigest() {
        long before = FOLDER.make().link(1);
        for (int kind : new int[] {1, 2, 3, 4, 6, 7, 8, 9, 10, 12, 0, 13, -5, Integer.MIN_VALUE}) {
            // The link is right for this kind without a digest.
            Recipe filed = withDigest(digestGiving(Links.behind(before, kind, 0, 0, 0)));
            edges.gives(-1, filed, x -> x.broken());
            edges.gives(-1, filed.then(x -> x.spoil(2, 0, kind)), x -> x.broken());
            edges.gives(2, filed.then(x -> x.spoil(2, 0, 11)), x -> x.broken());
        }
        // Kind 11 has a digest: that of record 1, if its number stands there.
        Recipe filed = withDigest(digestGiving(Links.behind(before, 11, 1, 0, 0, 4711)));
        edges.gives(-1, filed.then(x -> x.spoil(2, 0, 11)).then(x -> x.spoil(2, 1, 1)), x -> x.broken());
        edges.gives(2, filed.then(x -> x.spoil(2, 0, 12)).then(x -> x.spoil(2, 1, 1)), x -> x.broken());
    }

    private static void digestOfAnother() {
        long before = FOLDER.make().link(1);
        Recipe filed = withDigest(digestGiving(Links.behind(before, 5, 1, 0, 0, 4711)));
        edges.gives(-1, filed, x -> x.broken());
        edges.gives(-1, filed.then(x -> x.spoil(2, 1, 1)), x -> x.broken());
        edges.gives(2, filed.then(x -> x.spoil(2, 1, 2)), x -> x.broken());
        // A destroyed record keeps its digest.
        Recipe listed = () -> Offices.withApprovedList(3);
        edges.gives(-1, listed.then(x -> x.carry(0, 4, 100)), x -> x.broken());
    }

    private static void digestOfNone() {
        long before = FOLDER.make().link(1);
        for (int none : new int[] {2, 63, 64, 65, -1, Integer.MIN_VALUE, Integer.MAX_VALUE}) {
            Recipe filed = withDigest(digestGiving(Links.behind(before, 5, none, 0, 0, 0)));
            edges.gives(-1, filed, x -> x.broken());
            edges.gives(-1, filed.then(x -> x.spoil(2, 1, none)), x -> x.broken());
            edges.gives(2, filed.then(x -> x.spoil(2, 1, 1)), x -> x.broken());
        }
        // A record that is filed later is there from then on.
        Recipe spoilt = withDigest(digestGiving(Links.behind(before, 5, 2, 0, 0, 0))).then(x -> x.spoil(2, 1, 2));
        edges.gives(-1, spoilt, x -> x.broken());
        edges.gives(2, spoilt.then(x -> Offices.fileOn(x, 0, 0)), x -> x.broken());
        edges.gives(-1, spoilt.then(x -> x.file(0, 1, 0, -1, -1, -1, 0)), x -> x.broken());
    }

    private static void allAreRight() {
        edges.gives(-1, NEW, x -> x.broken());
        edges.gives(-1, NEW.then(x -> x.version(0, 0, 0, 0, false, 0)), x -> x.broken());
        edges.gives(-1, READY, x -> x.broken());
        edges.gives(-1, READY.withActs(400), x -> x.broken());
        Recipe same = FILED.then(x -> x.spoil(3, 1, x.act(3, 1)));
        edges.gives(-1, same, x -> x.broken());
        Recipe thereAndBack = FILED.then(x -> x.spoil(3, 1, 9)).then(x -> x.spoil(3, 1, 1));
        edges.gives(-1, thereAndBack, x -> x.broken());
        edges.gives(-1, thereAndBack.then(x -> x.close(0, 5)), x -> x.broken());
    }

    private static void dayAndTerm() {
        edges.gives(0, NEW, x -> x.later(0, 0, 0));
        edges.gives(120000, NEW, x -> x.later(120000, 0, 0));
        edges.gives(36859, NEW, x -> x.later(0, 100, 11));
        edges.gives(156859, NEW, x -> x.later(120000, 100, 11));
        edges.gives(58, NEW, x -> x.later(30, 0, 1));
        edges.gives(59, NEW, x -> x.later(31, 0, 1));
        // The day of the office has no part in it, and it changes nothing.
        edges.gives(31, READY, x -> x.later(0, 0, 1));
        edges.same(Probe.of(READY), Probe.of(READY.then(x -> x.later(120000, 100, 11))));
    }

    private static void laterThanNoDay() {
        edges.argumentOutside(0, 120000, NEW, (x, day) -> x.later(day, 0, 0));
        edges.argumentOutside(0, 120000, READY, (x, day) -> x.later(day, 100, 11));
    }

    private static void laterByNoTerm() {
        edges.argumentOutside(0, 100, NEW, (x, years) -> x.later(0, years, 0));
        edges.argumentOutside(0, 11, NEW, (x, months) -> x.later(0, 0, months));
        edges.argumentOutside(0, 100, NEW, (x, years) -> x.later(120000, years, 11));
        edges.argumentOutside(0, 11, NEW, (x, months) -> x.later(120000, 100, months));
        edges.argument(NEW, x -> x.later(0, -1, 12));
        edges.argument(NEW, x -> x.later(0, 1, -1));
    }
}
