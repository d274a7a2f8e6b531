/** Promise 3. */
public final class SetTest {
    public static void main(String[] args) {
        setsValues();
        setsNone();
        noneWhereNoneIs();
        noneLooksAtNoKey();
        firstAndLastRow();
        noRowAtAll();
        wrongInputs();
        keysThatAreThere();
        isAChangeEachTime();
        fullChanges();
        Check.finish();
    }

    private static void setsValues() {
        UndoShelf shelf = Check.shelfOf(3);
        shelf.set(0, 0, Integer.MIN_VALUE, false);
        shelf.set(1, 1, Integer.MAX_VALUE, false);
        shelf.set(2, 2, -5, false);
        Check.same("table", "-2147483648 1000 0 | 1 2147483647 1 | 2 1002 -5", Check.table(shelf));
        Check.same("new key", 0, shelf.find(0, Integer.MIN_VALUE));
        Check.same("old key", -1, shelf.find(0, 0));
    }

    private static void setsNone() {
        UndoShelf shelf = Check.shelfOf(2);
        shelf.set(0, 1, 77, true);
        shelf.set(1, 1, 77, true);
        shelf.set(1, 2, 77, true);
        Check.same("table", "0 - 0 | 1 - -", Check.table(shelf));
        Check.same("the key went", -1, shelf.find(1, 1000));
        Check.same("v is not looked at", -1, shelf.find(1, 77));
        shelf.set(1, 1, 1000, false);
        shelf.set(1, 2, 0, false);
        Check.same("table again", "0 - 0 | 1 1000 0", Check.table(shelf));
        Check.refused("none in column 0", Check.CONFLICT, shelf, () -> shelf.set(0, 0, 5, true));
    }

    private static void noneWhereNoneIs() {
        UndoShelf shelf = new UndoShelf();
        shelf.insert(1, 0, 0, 1);
        shelf.set(0, 1, 5, true);
        shelf.set(0, 2, 5, true);
        Check.same("table", "1 - -", Check.table(shelf));
        shelf.set(0, 1, 0, false);
        shelf.set(0, 2, 0, false);
        Check.same("an int where none was", "1 0 0", Check.table(shelf));
    }

    private static void noneLooksAtNoKey() {
        UndoShelf shelf = Check.shelfOf(2);
        shelf.set(1, 1, 1000, true);
        Check.same("v is another row's key", "0 1000 0 | 1 - 1", Check.table(shelf));
    }

    private static void firstAndLastRow() {
        UndoShelf shelf = Check.shelfOf(120);
        shelf.set(0, 0, 500, false);
        shelf.set(119, 0, 501, false);
        Check.same("first", 0, shelf.find(0, 500));
        Check.same("last", 119, shelf.find(0, 501));
        Check.refusedOnFull("row -1", Check.MISSING, shelf, () -> shelf.set(-1, 0, 502, false));
        Check.refusedOnFull("row 120", Check.MISSING, shelf, () -> shelf.set(120, 0, 502, false));
        Check.same("neither was set", -1, shelf.find(0, 502));
    }

    private static void noRowAtAll() {
        UndoShelf shelf = new UndoShelf();
        for (int column = 0; column < 3; column++) {
            int at = column;
            Check.refused("column " + column, Check.MISSING, shelf, () -> shelf.set(0, at, 1, false));
            Check.refused("none in column " + column, Check.MISSING, shelf, () -> shelf.set(0, at, 1, true));
        }
    }

    private static void wrongInputs() {
        UndoShelf shelf = Check.shelfOf(2);
        int[] columns = {-1, 3, 4, 32, Integer.MIN_VALUE, Integer.MAX_VALUE};
        for (int column : columns) {
            Check.refused("column " + column, Check.BAD, shelf, () -> shelf.set(0, column, 9, false));
            Check.refused("no row, column " + column, Check.BAD, shelf, () -> shelf.set(9, column, 9, true));
        }
        int[] rows = {-1, 2, 120, Integer.MIN_VALUE, Integer.MAX_VALUE, 1 << 30};
        for (int row : rows) {
            Check.refused("row " + row, Check.MISSING, shelf, () -> shelf.set(row, 2, 9, false));
        }
        Check.refused("missing before none in column 0", Check.MISSING, shelf, () -> shelf.set(2, 0, 0, true));
        Check.refused("missing before a key there", Check.MISSING, shelf, () -> shelf.set(2, 0, 0, false));
    }

    private static void keysThatAreThere() {
        UndoShelf shelf = Check.shelfOf(3);
        Check.refused("key 0 of a row behind", Check.CONFLICT, shelf, () -> shelf.set(0, 0, 2, false));
        Check.refused("key 0 of a row before", Check.CONFLICT, shelf, () -> shelf.set(2, 0, 0, false));
        Check.refused("key 1", Check.CONFLICT, shelf, () -> shelf.set(1, 1, 1002, false));
        shelf.set(1, 0, 1, false);
        shelf.set(1, 1, 1001, false);
        shelf.set(1, 2, 0, false);
        Check.same("its own keys, and another's value", "0 1000 0 | 1 1001 0 | 2 1002 2", Check.table(shelf));
        shelf.set(0, 1, 0, true);
        shelf.set(1, 1, 1000, false);
        Check.same("a key that was given up", 1, shelf.find(1, 1000));
    }

    private static void isAChangeEachTime() {
        UndoShelf shelf = Check.shelfOf(1);
        shelf.mark(1);
        shelf.set(0, 2, 0, false);
        shelf.set(0, 1, 1000, false);
        shelf.set(0, 1, 0, true);
        shelf.set(0, 1, 0, true);
        Check.same("changes", 4, shelf.count(2));
        shelf.back(1);
        Check.same("table", "0 1000 0", Check.table(shelf));
    }

    private static void fullChanges() {
        UndoShelf shelf = Check.shelfWithChanges(200);
        Check.refused("the 201st change", Check.CONFLICT, shelf, () -> shelf.set(0, 2, 5, false));
        Check.refused("the 201st change to none", Check.CONFLICT, shelf, () -> shelf.set(0, 2, 5, true));
        Check.refused("missing comes first", Check.MISSING, shelf, () -> shelf.set(1, 2, 5, false));
        Check.refused("bad comes first", Check.BAD, shelf, () -> shelf.set(1, 3, 5, false));
        shelf.release(0);
        shelf.set(0, 2, 5, false);
        Check.same("without points there is room", 5, shelf.value(0, 2));
    }
}
