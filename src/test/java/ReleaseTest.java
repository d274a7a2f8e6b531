/** Promise 10. */
public final class ReleaseTest {
    public static void main(String[] args) {
        changesStay();
        thePointAndThoseBehindGo();
        olderPointsKeepTheirChanges();
        withoutPointsNoneAreKept();
        noPoints();
        latestAndOldestOf20();
        missingNames();
        Check.finish();
    }

    private static void changesStay() {
        UndoShelf shelf = Check.shelfOf(2);
        shelf.mark(1);
        shelf.set(0, 2, 9, false);
        shelf.insert(5, 5, 5, 7);
        shelf.remove(1);
        shelf.release(1);
        Check.same("table", "0 1000 9 | 5 5 5", Check.table(shelf));
        Check.same("counts", "2 0 0 0 0", Check.counts(shelf));
    }

    private static void thePointAndThoseBehindGo() {
        UndoShelf shelf = Check.shelfOf(1);
        shelf.mark(1);
        shelf.mark(2);
        shelf.mark(3);
        shelf.mark(2);
        shelf.mark(4);
        shelf.release(2);
        Check.same("the latest of that name", 3, shelf.count(1));
        Check.refused("one behind it", Check.MISSING, shelf, () -> shelf.back(4));
        shelf.release(2);
        Check.same("the older of that name", 1, shelf.count(1));
        Check.refused("one that went", Check.MISSING, shelf, () -> shelf.release(3));
        shelf.release(1);
        Check.same("the oldest", 0, shelf.count(1));
        Check.refused("none is left", Check.MISSING, shelf, () -> shelf.release(1));
    }

    private static void olderPointsKeepTheirChanges() {
        UndoShelf shelf = Check.shelfOf(3);
        shelf.mark(1);
        shelf.remove(0);
        shelf.mark(2);
        shelf.remove(0);
        shelf.release(2);
        Check.same("counts", "1 1 2 0 0", Check.counts(shelf));
        shelf.set(0, 2, 9, false);
        shelf.back(1);
        Check.same("table", "0 1000 0 | 1 1001 1 | 2 1002 2", Check.table(shelf));
    }

    private static void withoutPointsNoneAreKept() {
        UndoShelf shelf = Check.shelfWithChanges(200);
        shelf.release(0);
        Check.same("changes kept", 0, shelf.count(2));
        shelf.set(0, 2, 1, false);
        Check.same("nor counted", 0, shelf.count(2));
        shelf.mark(7);
        shelf.set(0, 2, 2, false);
        Check.same("from the new point on", 1, shelf.count(2));
        shelf.back(7);
        Check.same("table", "0 1000 1", Check.table(shelf));
    }

    private static void noPoints() {
        UndoShelf shelf = Check.shelfOf(1);
        Check.refused("none yet", Check.MISSING, shelf, () -> shelf.release(0));
        shelf.mark(0);
        shelf.release(0);
        Check.refused("none any more", Check.MISSING, shelf, () -> shelf.release(0));
    }

    private static void latestAndOldestOf20() {
        UndoShelf shelf = Check.shelfWithPoints(20);
        shelf.release(19);
        Check.same("the latest", "1 19 20 0 0", Check.counts(shelf));
        shelf.release(0);
        Check.same("the oldest", "1 0 0 0 0", Check.counts(shelf));
        Check.same("changes stay", "0 1000 119", Check.table(shelf));
    }

    private static void missingNames() {
        UndoShelf shelf = Check.shelfOf(1);
        shelf.mark(1);
        shelf.remove(0);
        int[] names = {0, -1, 2, Integer.MIN_VALUE, Integer.MAX_VALUE};
        for (int name : names) {
            Check.refused("name " + name, Check.MISSING, shelf, () -> shelf.release(name));
        }
    }
}
