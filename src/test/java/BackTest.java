/** Promise 9. */
public final class BackTest {
    private static final String START = "0 1000 0 | 1 1001 1 | 2 1002 2 | 3 1003 3 | 4 1004 0";

    public static void main(String[] args) {
        undoesEachKind();
        undoesTheLatestFirst();
        bringsNoneBack();
        meansTheLatestOfThatName();
        pointsBehindGo();
        changesBeforeThePointStay();
        twoHundredChanges();
        missingNames();
        Check.finish();
    }

    private static UndoShelf marked() {
        UndoShelf shelf = Check.shelfOf(5);
        shelf.mark(1);
        return shelf;
    }

    private static void goBack(String what, UndoShelf shelf) {
        shelf.back(1);
        Check.same(what, START, Check.table(shelf));
        Check.same(what + ", counts", "5 1 0 0 0", Check.counts(shelf));
    }

    private static void undoesEachKind() {
        UndoShelf shelf = marked();
        goBack("nothing", shelf);
        shelf.insert(9, 9, 9, 7);
        goBack("insert", shelf);
        shelf.set(2, 0, 99, false);
        shelf.set(3, 1, 99, false);
        shelf.set(4, 2, 99, false);
        goBack("set", shelf);
        shelf.set(2, 1, 0, true);
        shelf.set(2, 2, 0, true);
        goBack("set to none", shelf);
        shelf.remove(0);
        goBack("remove of the first", shelf);
        shelf.remove(2);
        goBack("remove of one between", shelf);
        shelf.remove(4);
        goBack("remove of the last", shelf);
        Check.same("removeAll", 2, shelf.removeAll(2, 0));
        goBack("removeAll", shelf);
    }

    private static void undoesTheLatestFirst() {
        UndoShelf shelf = marked();
        shelf.remove(1);
        shelf.insert(1, 1001, 8, 7);
        shelf.set(4, 2, 7, false);
        shelf.set(4, 2, 6, false);
        shelf.remove(4);
        shelf.remove(0);
        shelf.insert(0, 1001, 5, 7);
        shelf.set(0, 0, 1, false);
        shelf.set(3, 0, 2, false);
        shelf.removeAll(2, 5);
        Check.same("before", "1 1002 2 | 3 1003 3 | 4 1004 0", Check.table(shelf));
        goBack("all", shelf);
    }

    private static void bringsNoneBack() {
        UndoShelf shelf = new UndoShelf();
        shelf.insert(1, 0, 0, 1);
        shelf.insert(2, 5, 0, 3);
        shelf.mark(1);
        shelf.set(0, 1, 7, false);
        shelf.set(0, 2, 7, false);
        shelf.remove(0);
        shelf.set(0, 1, 0, true);
        shelf.back(1);
        Check.same("table", "1 - - | 2 5 -", Check.table(shelf));
        Check.same("counts", "2 1 0 1 2", Check.counts(shelf));
        Check.same("the key is there again", 1, shelf.find(1, 5));
        Check.same("the key is gone again", -1, shelf.find(1, 7));
    }

    private static void meansTheLatestOfThatName() {
        UndoShelf shelf = marked();
        shelf.remove(0);
        shelf.mark(1);
        shelf.remove(0);
        shelf.back(1);
        Check.same("the latest", "4 2 1 0 0", Check.counts(shelf));
        shelf.remove(0);
        shelf.back(1);
        Check.same("it stays", "4 2 1 0 0", Check.counts(shelf));
        shelf.release(1);
        goBack("the older one", shelf);
    }

    private static void pointsBehindGo() {
        UndoShelf shelf = marked();
        shelf.mark(2);
        shelf.remove(0);
        shelf.mark(3);
        shelf.remove(0);
        shelf.mark(2);
        shelf.mark(4);
        shelf.back(3);
        Check.same("counts", "4 3 1 0 0", Check.counts(shelf));
        Check.refused("a point behind it", Check.MISSING, shelf, () -> shelf.back(4));
        shelf.back(2);
        Check.same("the older of a name whose later one went", "5 2 0 0 0", Check.counts(shelf));
        Check.refused("a point that went", Check.MISSING, shelf, () -> shelf.release(3));
        goBack("the oldest", shelf);
    }

    private static void changesBeforeThePointStay() {
        UndoShelf shelf = Check.shelfOf(2);
        shelf.set(0, 2, 50, false);
        shelf.mark(1);
        shelf.set(0, 2, 51, false);
        shelf.mark(2);
        shelf.set(0, 2, 52, false);
        shelf.set(1, 2, 53, false);
        shelf.back(2);
        Check.same("table", "0 1000 51 | 1 1001 1", Check.table(shelf));
        Check.same("changes kept", 1, shelf.count(2));
        shelf.back(1);
        Check.same("table", "0 1000 50 | 1 1001 1", Check.table(shelf));
        Check.same("changes kept", 0, shelf.count(2));
    }

    private static void twoHundredChanges() {
        UndoShelf shelf = Check.shelfOf(120);
        shelf.mark(1);
        for (int v = 0; v < 4; v++) {
            Check.same("removeAll", 30, shelf.removeAll(2, v));
        }
        for (int i = 0; i < 80; i++) {
            shelf.insert(500 - i, i, i, 7);
        }
        Check.same("counts", "80 1 200 0 0", Check.counts(shelf));
        shelf.back(1);
        Check.same("counts", "120 1 0 0 0", Check.counts(shelf));
        for (int i = 0; i < 120; i++) {
            Check.same("row of key " + i, i, shelf.find(0, i));
        }
        shelf.remove(0);
        Check.same("there is room again", 1, shelf.count(2));
    }

    private static void missingNames() {
        UndoShelf shelf = marked();
        shelf.remove(0);
        int[] names = {0, -1, 2, Integer.MIN_VALUE, Integer.MAX_VALUE};
        for (int name : names) {
            Check.refused("name " + name, Check.MISSING, shelf, () -> shelf.back(name));
        }
    }
}
