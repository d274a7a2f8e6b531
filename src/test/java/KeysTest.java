/** Terms: "COLUMNS 0 and 1 are KEYS: no two ROWS have the same int in one." */
public final class KeysTest {
    public static void main(String[] args) {
        ofAnyRowAgainstAnInsert();
        ofAnyOtherRowAgainstASet();
        itsOwnKey();
        anyIntIsAKey();
        eachColumnForItself();
        column2IsNoKey();
        noneIsNoKey();
        freeWhenGivenUp();
        thereAgainAfterBack();
        freeAgainAfterBack();
        Check.finish();
    }

    private static void ofAnyRowAgainstAnInsert() {
        UndoShelf shelf = Check.shelfOf(119);
        for (int row = 0; row < 119; row++) {
            int at = row;
            Check.thrown("key 0 of row " + row, Check.CONFLICT, () -> shelf.insert(at, 0, 0, 5));
            Check.thrown("key 1 of row " + row, Check.CONFLICT, () -> shelf.insert(500, 1000 + at, 0, 7));
        }
        Check.same("neither", 119, shelf.insert(500, 0, 0, 7));
    }

    private static void ofAnyOtherRowAgainstASet() {
        UndoShelf shelf = Check.shelfOf(4);
        for (int row = 0; row < 4; row++) {
            for (int step = 1; step < 4; step++) {
                int at = row;
                int other = (row + step) % 4;
                String what = "row " + row + " against " + other;
                Check.thrown(what, Check.CONFLICT, () -> shelf.set(at, 0, other, false));
                Check.thrown(what, Check.CONFLICT, () -> shelf.set(at, 1, 1000 + other, false));
            }
        }
        Check.same("table", Check.tableOf(4), Check.table(shelf));
    }

    private static void itsOwnKey() {
        UndoShelf shelf = Check.shelfOf(3);
        for (int row = 0; row < 3; row++) {
            shelf.set(row, 0, row, false);
            shelf.set(row, 1, 1000 + row, false);
        }
        Check.same("table", Check.tableOf(3), Check.table(shelf));
    }

    private static void anyIntIsAKey() {
        UndoShelf shelf = new UndoShelf();
        for (int key : Check.EDGES) {
            shelf.insert(key, key, 0, 7);
        }
        for (int key : Check.EDGES) {
            Check.refused("key 0 " + key, Check.CONFLICT, shelf, () -> shelf.insert(key, 50, 0, 7));
            Check.refused("key 1 " + key, Check.CONFLICT, shelf, () -> shelf.insert(50, key, 0, 7));
        }
    }

    private static void eachColumnForItself() {
        UndoShelf shelf = new UndoShelf();
        Check.same("one int in both", 0, shelf.insert(5, 5, 0, 7));
        Check.same("one row's key 1, another's key 0", 1, shelf.insert(6, 7, 0, 7));
        Check.same("and turned round", 2, shelf.insert(7, 6, 0, 7));
        shelf.set(1, 1, 1, false);
        shelf.set(2, 1, 2, false);
        shelf.set(0, 1, 6, false);
        shelf.set(1, 0, 2, false);
        Check.same("table", "5 6 0 | 2 1 0 | 7 2 0", Check.table(shelf));
    }

    private static void column2IsNoKey() {
        UndoShelf shelf = new UndoShelf();
        for (int row = 0; row < 120; row++) {
            Check.same("insert", row, shelf.insert(row, row, 9, 7));
        }
        shelf.set(0, 2, 8, false);
        shelf.set(1, 2, 8, false);
        shelf.set(1, 2, 9, false);
        Check.same("removeAll of 9", 119, shelf.removeAll(2, 9));
        Check.same("table", "0 0 8", Check.table(shelf));
    }

    private static void noneIsNoKey() {
        UndoShelf shelf = new UndoShelf();
        shelf.insert(0, 5, 0, 3);
        Check.same("the int beside a bit that is not set", 1, shelf.insert(1, 5, 0, 1));
        Check.same("none for a second time", 2, shelf.insert(2, 5, 0, 1));
        Check.same("the int that none stands for", 3, shelf.insert(3, 0, 0, 3));
        shelf.set(3, 1, 5, true);
        Check.same("none for a third time, with a key's int", "0 5 - | 1 - - | 2 - - | 3 - -", Check.table(shelf));
        shelf.set(1, 1, 0, false);
        Check.refused("an int where none was", Check.CONFLICT, shelf, () -> shelf.set(2, 1, 0, false));
    }

    private static void freeWhenGivenUp() {
        UndoShelf shelf = Check.shelfOf(5);
        shelf.set(0, 0, 50, false);
        Check.same("by a set, key 0", 5, shelf.insert(0, 0, 0, 1));
        shelf.set(1, 1, 50, false);
        Check.same("by a set, key 1", 6, shelf.insert(60, 1001, 0, 7));
        shelf.set(2, 1, 0, true);
        Check.same("by none", 7, shelf.insert(70, 1002, 0, 7));
        shelf.remove(3);
        Check.same("by a remove", 7, shelf.insert(3, 1003, 0, 7));
        Check.same("removeAll", 1, shelf.removeAll(1, 1004));
        Check.same("by a removeAll", 7, shelf.insert(4, 1004, 0, 7));
    }

    private static void thereAgainAfterBack() {
        UndoShelf shelf = Check.shelfOf(4);
        shelf.mark(1);
        shelf.set(0, 0, 50, false);
        shelf.set(1, 1, 0, true);
        shelf.remove(2);
        shelf.removeAll(0, 3);
        Check.same("all taken by one", 2, shelf.insert(0, 1001, 0, 7));
        shelf.back(1);
        for (int row = 0; row < 4; row++) {
            int at = row;
            Check.refused("key 0 of row " + row, Check.CONFLICT, shelf, () -> shelf.insert(at, 0, 0, 7));
            Check.refused("key 1 of row " + row, Check.CONFLICT, shelf, () -> shelf.insert(9, 1000 + at, 0, 7));
        }
    }

    private static void freeAgainAfterBack() {
        UndoShelf shelf = Check.shelfOf(2);
        shelf.mark(1);
        shelf.insert(7, 8, 0, 7);
        shelf.set(0, 0, 9, false);
        shelf.set(1, 1, 9, false);
        shelf.back(1);
        Check.same("of an insert undone", 2, shelf.insert(7, 8, 0, 7));
        Check.same("of a set undone", 3, shelf.insert(9, 9, 0, 7));
    }
}
