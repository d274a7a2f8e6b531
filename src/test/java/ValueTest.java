/** Promise 7. */
public final class ValueTest {
    public static void main(String[] args) {
        answersTheInt();
        inNoRows();
        firstAndLastOf120();
        wrongInputs();
        Check.finish();
    }

    private static void answersTheInt() {
        UndoShelf shelf = new UndoShelf();
        shelf.insert(1, -1, Integer.MIN_VALUE, 7);
        shelf.insert(0, 0, 0, 7);
        shelf.insert(2, 9, 9, 1);
        Check.same("column 0", 1, shelf.value(0, 0));
        Check.same("column 1", -1, shelf.value(0, 1));
        Check.same("column 2", Integer.MIN_VALUE, shelf.value(0, 2));
        Check.same("0 is a value", 0, shelf.value(1, 2));
        Check.refused("none in column 1", Check.MISSING, shelf, () -> shelf.value(2, 1));
        Check.refused("none in column 2", Check.MISSING, shelf, () -> shelf.value(2, 2));
        shelf.remove(2);
        Check.refused("a removed row", Check.MISSING, shelf, () -> shelf.value(2, 0));
    }

    private static void inNoRows() {
        UndoShelf shelf = new UndoShelf();
        for (int column = 0; column < 3; column++) {
            int at = column;
            Check.refused("column " + column, Check.MISSING, shelf, () -> shelf.value(0, at));
        }
        Check.refused("bad comes first", Check.BAD, shelf, () -> shelf.value(0, 3));
    }

    private static void firstAndLastOf120() {
        UndoShelf shelf = Check.shelfOf(120);
        Check.same("first", 1000, shelf.value(0, 1));
        Check.same("last", 1119, shelf.value(119, 1));
        Check.refusedOnFull("row -1", Check.MISSING, shelf, () -> shelf.value(-1, 1));
        Check.refusedOnFull("row 120", Check.MISSING, shelf, () -> shelf.value(120, 1));
    }

    private static void wrongInputs() {
        UndoShelf shelf = Check.shelfOf(2);
        int[] columns = {-1, 3, 32, Integer.MIN_VALUE, Integer.MAX_VALUE};
        for (int column : columns) {
            Check.refused("column " + column, Check.BAD, shelf, () -> shelf.value(0, column));
            Check.refused("no row, column " + column, Check.BAD, shelf, () -> shelf.value(2, column));
        }
        int[] rows = {-1, 2, 119, 120, Integer.MIN_VALUE, Integer.MAX_VALUE, 1 << 30};
        for (int row : rows) {
            Check.refused("row " + row, Check.MISSING, shelf, () -> shelf.value(row, 0));
        }
    }
}
