/** Promise 9. */
public final class BackTest {
    private static final String START = "0 1000 0 | 1 1001 1 | 2 1002 2 | 3 1003 3 | 4 1004 0";
    private static final int KINDS = 16;

    public static void main(String[] args) {
        undoesEachKind();
        everyRunOfThreeChanges();
        undoesTheLatestFirst();
        bringsNoneBack();
        meansTheLatestOfThatName();
        pointsBehindGo();
        changesBeforeThePointStay();
        twoHundredChanges();
        whereItWasIn120();
        changedThenRemoved();
        cameAndWentSince();
        againAndAgain();
        latestAndOldestOf20();
        noPoints();
        missingNames();
        Check.finish();
    }

    private static UndoShelf marked() {
        UndoShelf shelf = Check.shelfOf(5);
        shelf.mark(1);
        return shelf;
    }

    private static void goBack(String what, UndoShelf shelf) {
        shelf.back(1);
        Check.same(what, START, Check.table(shelf));
        Check.same(what + ", counts", "5 1 0 0 0", Check.counts(shelf));
    }

    private static void undoesEachKind() {
        UndoShelf shelf = marked();
        goBack("nothing", shelf);
        shelf.insert(9, 9, 9, 7);
        goBack("insert", shelf);
        shelf.set(2, 0, 99, false);
        shelf.set(3, 1, 99, false);
        shelf.set(4, 2, 99, false);
        goBack("set", shelf);
        shelf.set(2, 1, 0, true);
        shelf.set(2, 2, 0, true);
        goBack("set to none", shelf);
        shelf.remove(0);
        goBack("remove of the first", shelf);
        shelf.remove(2);
        goBack("remove of one between", shelf);
        shelf.remove(4);
        goBack("remove of the last", shelf);
        Check.same("removeAll", 2, shelf.removeAll(2, 0));
        goBack("removeAll", shelf);
    }

    // "all CHANGES since it was marked are undone, the latest first: a ROW that was removed is where it was"
    private static void everyRunOfThreeChanges() {
        for (int run = 0; run < KINDS * KINDS * KINDS; run++) {
            UndoShelf shelf = Check.shelfOf(3);
            shelf.set(1, 2, 0, true);
            shelf.mark(1);
            for (int left = run, step = 0; step < 3; left /= KINDS, step++) {
                int kind = left % KINDS;
                int key = 50 + step;
                // What a change before it left no room or no row for is refused, and is then none.
                Check.thrownBy(() -> changeOf(kind, key, shelf));
            }
            shelf.back(1);
            Check.same("run " + run, "0 1000 0 | 1 1001 - | 2 1002 2", Check.table(shelf));
            Check.same("run " + run + ", counts", "3 1 0 0 1", Check.counts(shelf));
        }
    }

    private static void changeOf(int kind, int key, UndoShelf shelf) {
        switch (kind) {
            case 0:
            case 1:
            case 2:
                shelf.remove(kind);
                break;
            case 3:
                shelf.insert(key, key, 0, 7);
                break;
            case 4:
                shelf.insert(1, 1002, 9, 3);
                break;
            case 5:
                shelf.removeAll(2, 0);
                break;
            case 6:
                shelf.set(1, 1, 0, true);
                break;
            default:
                shelf.set((kind - 7) / 3, (kind - 7) % 3, key, false);
                break;
        }
    }

    private static void undoesTheLatestFirst() {
        UndoShelf shelf = marked();
        shelf.remove(1);
        shelf.insert(1, 1001, 8, 7);
        shelf.set(4, 2, 7, false);
        shelf.set(4, 2, 6, false);
        shelf.remove(4);
        shelf.remove(0);
        shelf.insert(0, 1001, 5, 7);
        shelf.set(0, 0, 1, false);
        shelf.set(3, 0, 2, false);
        shelf.removeAll(2, 5);
        Check.same("before", "1 1002 2 | 3 1003 3 | 4 1004 0", Check.table(shelf));
        goBack("all", shelf);
    }

    private static void bringsNoneBack() {
        UndoShelf shelf = new UndoShelf();
        shelf.insert(1, 0, 0, 1);
        shelf.insert(2, 5, 0, 3);
        shelf.mark(1);
        shelf.set(0, 1, 7, false);
        shelf.set(0, 2, 7, false);
        shelf.remove(0);
        shelf.set(0, 1, 0, true);
        shelf.back(1);
        Check.same("table", "1 - - | 2 5 -", Check.table(shelf));
        Check.same("counts", "2 1 0 1 2", Check.counts(shelf));
        Check.same("the key is there again", 1, shelf.find(1, 5));
        Check.same("the key is gone again", -1, shelf.find(1, 7));
    }

    private static void meansTheLatestOfThatName() {
        UndoShelf shelf = marked();
        shelf.remove(0);
        shelf.mark(1);
        shelf.remove(0);
        shelf.back(1);
        Check.same("the latest", "4 2 1 0 0", Check.counts(shelf));
        shelf.remove(0);
        shelf.back(1);
        Check.same("it stays", "4 2 1 0 0", Check.counts(shelf));
        shelf.release(1);
        goBack("the older one", shelf);
    }

    private static void pointsBehindGo() {
        UndoShelf shelf = marked();
        shelf.mark(2);
        shelf.remove(0);
        shelf.mark(3);
        shelf.remove(0);
        shelf.mark(2);
        shelf.mark(4);
        shelf.back(3);
        Check.same("counts", "4 3 1 0 0", Check.counts(shelf));
        Check.refused("a point behind it", Check.MISSING, shelf, () -> shelf.back(4));
        shelf.back(2);
        Check.same("the older of a name whose later one went", "5 2 0 0 0", Check.counts(shelf));
        Check.refused("a point that went", Check.MISSING, shelf, () -> shelf.release(3));
        goBack("the oldest", shelf);
    }

    private static void changesBeforeThePointStay() {
        UndoShelf shelf = Check.shelfOf(2);
        shelf.set(0, 2, 50, false);
        shelf.mark(1);
        shelf.set(0, 2, 51, false);
        shelf.mark(2);
        shelf.set(0, 2, 52, false);
        shelf.set(1, 2, 53, false);
        shelf.back(2);
        Check.same("table", "0 1000 51 | 1 1001 1", Check.table(shelf));
        Check.same("changes kept", 1, shelf.count(2));
        shelf.back(1);
        Check.same("table", "0 1000 50 | 1 1001 1", Check.table(shelf));
        Check.same("changes kept", 0, shelf.count(2));
    }

    private static void twoHundredChanges() {
        UndoShelf shelf = Check.shelfOf(120);
        shelf.mark(1);
        for (int v = 0; v < 4; v++) {
            Check.same("removeAll", 30, shelf.removeAll(2, v));
        }
        for (int i = 0; i < 80; i++) {
            shelf.insert(500 - i, i, i, 7);
        }
        Check.same("counts", "80 1 200 0 0", Check.counts(shelf));
        shelf.back(1);
        Check.same("counts", "120 1 0 0 0", Check.counts(shelf));
        for (int i = 0; i < 120; i++) {
            Check.same("row of key " + i, i, shelf.find(0, i));
        }
        shelf.remove(0);
        Check.same("there is room again", 1, shelf.count(2));
    }

    private static void whereItWasIn120() {
        UndoShelf shelf = Check.shelfOf(120);
        shelf.mark(1);
        int[] removed = {119, 0, 60, 0, 115, 59};
        for (int row : removed) {
            shelf.remove(row);
        }
        shelf.back(1);
        Check.same("table", Check.tableOf(120), Check.table(shelf));
    }

    private static void changedThenRemoved() {
        UndoShelf shelf = marked();
        for (int column = 0; column < 3; column++) {
            shelf.set(2, column, 99, false);
        }
        shelf.set(2, 2, 0, true);
        shelf.remove(2);
        goBack("a row that was set and then removed", shelf);
    }

    private static void cameAndWentSince() {
        UndoShelf shelf = marked();
        shelf.insert(9, 9, 9, 7);
        shelf.remove(5);
        goBack("a row that came and went", shelf);
        shelf.remove(1);
        shelf.insert(1, 1001, 1, 7);
        shelf.remove(4);
        shelf.insert(1, 1001, 1, 7);
        goBack("a row that went and came again", shelf);
    }

    // "it stays"
    private static void againAndAgain() {
        UndoShelf shelf = marked();
        goBack("at once", shelf);
        goBack("a second time", shelf);
        for (int i = 0; i < 5; i++) {
            shelf.remove(i);
            goBack("time " + i, shelf);
        }
    }

    private static void latestAndOldestOf20() {
        UndoShelf shelf = Check.shelfWithPoints(20);
        shelf.back(19);
        Check.same("the latest", "1 20 19 0 0", Check.counts(shelf));
        Check.same("what stood there", "0 1000 118", Check.table(shelf));
        shelf.back(0);
        Check.same("the oldest", "1 1 0 0 0", Check.counts(shelf));
        Check.same("what stood there", "0 1000 0", Check.table(shelf));
    }

    private static void noPoints() {
        UndoShelf shelf = Check.shelfOf(1);
        Check.refused("none yet", Check.MISSING, shelf, () -> shelf.back(0));
        shelf.mark(0);
        shelf.release(0);
        Check.refused("none any more", Check.MISSING, shelf, () -> shelf.back(0));
    }

    private static void missingNames() {
        UndoShelf shelf = marked();
        shelf.remove(0);
        int[] names = {0, -1, 2, Integer.MIN_VALUE, Integer.MAX_VALUE};
        for (int name : names) {
            Check.refused("name " + name, Check.MISSING, shelf, () -> shelf.back(name));
        }
    }
}
