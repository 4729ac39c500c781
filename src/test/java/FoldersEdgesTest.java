/** The boundary cases of promises 5 (open), 6 (close) and 7 (left). */
public final class FoldersEdgesTest {
    private static final Edges edges = new Edges();
    private static final Recipe NEW = RecordsOffice::new;
    /** Classes 0 and 7 have a version; no folder is there. */
    private static final Recipe CLASSES = NEW.then(x -> {
        x.version(0, 1, 0, 0, false, 0);
        x.version(7, 2, 0, 0, false, 0);
    });
    /** Folders 0 and 15 are there, folder 15 of class 7; the day of the office is 10. */
    private static final Recipe FOLDERS = CLASSES.then(x -> {
        x.open(0, 0);
        x.open(15, 7);
        Offices.fileOn(x, 0, 10);
        Offices.fileOn(x, 15, 10);
    });
    private static final Recipe CLOSED = FOLDERS.then(x -> x.close(0, 10));
    private static final Recipe LEFT = FOLDERS.then(x -> x.left(0, 10));

    public static void main(String[] args) {
        edges.promise("Promise 5: open");
        edges.sentence("A folder is opened.", FoldersEdgesTest::opens);
        edges.sentence("IndexOutOfBoundsException: no such folder or class", FoldersEdgesTest::noSuchFolderOrClass);
        edges.sentence("IllegalStateException: it is there", FoldersEdgesTest::isThere);
        edges.sentence("or the class has no version", FoldersEdgesTest::noVersion);
        edges.sentence("of several exceptions the one named first is thrown", FoldersEdgesTest::openInOrder);

        edges.promise("Promise 6: close");
        edges.sentence("A folder is CLOSED: nothing is filed in it any more.", FoldersEdgesTest::nothingIsFiled);
        edges.sentence("IndexOutOfBoundsException", FoldersEdgesTest::closesNoSuchFolder);
        edges.sentence("IllegalArgumentException", FoldersEdgesTest::closesOnNoSuchDay);
        edges.sentence("IllegalStateException: it is closed.", FoldersEdgesTest::isClosed);
        edges.sentence("of several exceptions the one named first is thrown", FoldersEdgesTest::closeInOrder);

        edges.promise("Promise 7: left");
        edges.sentence("A folder's PERSON LEFT.", FoldersEdgesTest::leaves);
        edges.sentence("IndexOutOfBoundsException", FoldersEdgesTest::leavesNoSuchFolder);
        edges.sentence("IllegalArgumentException", FoldersEdgesTest::leavesOnNoSuchDay);
        edges.sentence("IllegalStateException: that was told.", FoldersEdgesTest::wasTold);
        edges.sentence("of several exceptions the one named first is thrown", FoldersEdgesTest::leftInOrder);
        edges.end();
    }

    private static void lastActIs(String want, Recipe recipe) {
        edges.same(want, Offices.lastAct(recipe.make()));
    }

    private static void opens() {
        lastActIs("2 0 0 0", CLASSES.then(x -> x.open(0, 0)));
        lastActIs("2 15 7 0", CLASSES.then(x -> x.open(15, 7)));
        edges.gives(0, CLASSES.then(x -> x.open(15, 7)), x -> x.count(3));
        edges.gives(0, CLASSES.then(x -> x.open(15, 7)), x -> Offices.fileOn(x, 15, 0));
    }

    private static void noSuchFolderOrClass() {
        edges.indexOutside(0, 15, CLASSES, (x, folder) -> x.open(folder, 0));
        for (int cls : new int[] {-1, 8, Integer.MIN_VALUE, Integer.MAX_VALUE}) {
            edges.index(CLASSES, x -> x.open(0, cls));
        }
        edges.takes(CLASSES, x -> x.open(0, 0));
        edges.takes(CLASSES, x -> x.open(0, 7));
    }

    private static void isThere() {
        edges.state(FOLDERS, x -> x.open(0, 0));
        edges.state(FOLDERS, x -> x.open(0, 7));
        edges.state(FOLDERS, x -> x.open(15, 7));
        edges.takes(FOLDERS, x -> x.open(1, 0));
        edges.takes(FOLDERS, x -> x.open(14, 0));
        // A closed one is there too, also one whose person left.
        edges.state(CLOSED, x -> x.open(0, 0));
        edges.state(CLOSED.then(x -> x.left(0, 10)), x -> x.open(0, 0));
    }

    private static void noVersion() {
        edges.state(CLASSES, x -> x.open(0, 1));
        edges.state(CLASSES, x -> x.open(0, 6));
        edges.state(NEW, x -> x.open(0, 0));
        edges.takes(CLASSES.then(x -> x.version(6, 0, 0, 0, false, 120000)), x -> x.open(0, 6));
    }

    private static void openInOrder() {
        new Refusals(edges, (x, n) -> x.open(n[0], n[1]), 1, 0)
                .index(0, -1, 16)
                .index(1, -1, 8)
                .takenIn(CLASSES, FOLDERS, CLASSES.withActs(399))
                .stateIn(FOLDERS.then(x -> x.open(1, 7)), NEW, CLASSES.withActs(400))
                .check();
    }

    private static void nothingIsFiled() {
        edges.gives(2, FOLDERS, x -> Offices.fileOn(x, 0, 10));
        edges.state(CLOSED, x -> Offices.fileOn(x, 0, 10));
        edges.state(CLOSED, x -> Offices.fileOn(x, 0, 11));
        edges.gives(2, CLOSED, x -> Offices.fileOn(x, 15, 10));
        lastActIs("3 0 10 0", CLOSED);
        lastActIs("3 15 120000 0", FOLDERS.then(x -> x.close(15, 120000)));
        edges.gives(10, CLOSED, x -> x.due(0));
        // A folder with nothing in it is closed as well.
        edges.takes(FOLDERS.then(x -> x.open(3, 0)), x -> x.close(3, 10));
    }

    private static void closesNoSuchFolder() {
        edges.indexOutside(0, 0, FOLDERS, (x, folder) -> x.close(folder, 10));
        edges.indexOutside(15, 15, FOLDERS, (x, folder) -> x.close(folder, 10));
    }

    private static void closesOnNoSuchDay() {
        edges.argumentOutside(10, 120000, FOLDERS, (x, day) -> x.close(0, day));
        edges.argument(FOLDERS, x -> x.close(0, -1));
        edges.argument(FOLDERS, x -> x.close(0, 0));
    }

    private static void isClosed() {
        edges.state(CLOSED, x -> x.close(0, 10));
        edges.state(CLOSED, x -> x.close(0, 120000));
        edges.takes(CLOSED, x -> x.close(15, 10));
        edges.takes(LEFT, x -> x.close(0, 10));
    }

    private static void closeInOrder() {
        new Refusals(edges, (x, n) -> x.close(n[0], n[1]), 0, 10)
                .index(0, -1, 1, 14, 16)
                .argument(1, -1, 9, 120001)
                .takenIn(FOLDERS, LEFT, FOLDERS.withActs(399))
                .stateIn(CLOSED, FOLDERS.withActs(400), CLOSED.withActs(400))
                .check();
    }

    private static void leaves() {
        lastActIs("4 0 10 0", LEFT);
        lastActIs("4 15 120000 0", FOLDERS.then(x -> x.left(15, 120000)));
        edges.gives(2, LEFT, x -> Offices.fileOn(x, 0, 10));
        edges.gives(10, FOLDERS.then(x -> x.left(15, 10)), x -> x.due(1));
        edges.gives(-1, LEFT, x -> x.due(1));
    }

    private static void leavesNoSuchFolder() {
        edges.indexOutside(0, 0, FOLDERS, (x, folder) -> x.left(folder, 10));
        edges.indexOutside(15, 15, FOLDERS, (x, folder) -> x.left(folder, 10));
    }

    private static void leavesOnNoSuchDay() {
        edges.argumentOutside(10, 120000, FOLDERS, (x, day) -> x.left(0, day));
        edges.argument(FOLDERS, x -> x.left(0, -1));
        edges.argument(FOLDERS, x -> x.left(0, 0));
    }

    private static void wasTold() {
        edges.state(LEFT, x -> x.left(0, 10));
        edges.state(LEFT, x -> x.left(0, 120000));
        edges.takes(LEFT, x -> x.left(15, 10));
        edges.takes(CLOSED, x -> x.left(0, 10));
    }

    private static void leftInOrder() {
        new Refusals(edges, (x, n) -> x.left(n[0], n[1]), 0, 10)
                .index(0, -1, 1, 14, 16)
                .argument(1, -1, 9, 120001)
                .takenIn(FOLDERS, CLOSED, FOLDERS.withActs(399))
                .stateIn(LEFT, FOLDERS.withActs(400), LEFT.withActs(400))
                .check();
    }
}
