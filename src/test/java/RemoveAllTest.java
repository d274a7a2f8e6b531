/** Promise 5. */
public final class RemoveAllTest {
    public static void main(String[] args) {
        removesAllWithTheValue();
        noneIsNoValue();
        fromNoRows();
        noRowHasIt();
        allOfAFullTable();
        anyInt();
        wrongInputs();
        fullChanges();
        allOrNone();
        Check.finish();
    }

    private static void removesAllWithTheValue() {
        UndoShelf shelf = new UndoShelf();
        int[] values = {7, 7, 1, 7, 2, 7, 7};
        for (int i = 0; i < values.length; i++) {
            shelf.insert(i, 10 + i, values[i], 7);
        }
        shelf.mark(1);
        Check.same("neighbours, first and last", 5, shelf.removeAll(2, 7));
        Check.same("table", "2 12 1 | 4 14 2", Check.table(shelf));
        Check.same("each is a change", 5, shelf.count(2));
        Check.same("again", 0, shelf.removeAll(2, 7));
        Check.same("no change more", 5, shelf.count(2));
        Check.same("by key 0", 1, shelf.removeAll(0, 2));
        Check.same("by key 1", 1, shelf.removeAll(1, 14));
        Check.same("a key that went", 0, shelf.removeAll(1, 14));
        Check.same("all gone", 0, shelf.count(0));
        shelf.back(1);
        Check.same("all back where they were",
                "0 10 7 | 1 11 7 | 2 12 1 | 3 13 7 | 4 14 2 | 5 15 7 | 6 16 7", Check.table(shelf));
    }

    private static void noneIsNoValue() {
        UndoShelf shelf = new UndoShelf();
        shelf.insert(1, 5, 5, 1);
        shelf.insert(2, 0, 0, 7);
        shelf.insert(3, 5, 5, 7);
        shelf.set(2, 1, 5, true);
        shelf.set(2, 2, 5, true);
        Check.same("5 in column 1", 0, shelf.removeAll(1, 5));
        Check.same("5 in column 2", 0, shelf.removeAll(2, 5));
        Check.same("0 in column 2", 1, shelf.removeAll(2, 0));
        Check.same("table", "1 - - | 3 - -", Check.table(shelf));
    }

    private static void fromNoRows() {
        UndoShelf shelf = new UndoShelf();
        for (int column = 0; column < 3; column++) {
            Check.same("column " + column, 0, shelf.removeAll(column, 0));
        }
    }

    private static void noRowHasIt() {
        UndoShelf shelf = Check.shelfOf(3);
        Check.same("a value of column 1 in column 0", 0, shelf.removeAll(0, 1000));
        Check.same("a value of column 0 in column 1", 0, shelf.removeAll(1, 0));
        Check.same("a value of column 1 in column 2", 0, shelf.removeAll(2, 1000));
        Check.same("table", Check.tableOf(3), Check.table(shelf));
    }

    private static void allOfAFullTable() {
        UndoShelf shelf = new UndoShelf();
        for (int row = 0; row < 120; row++) {
            shelf.insert(row, row, 5, 7);
        }
        shelf.mark(1);
        Check.same("removed", 120, shelf.removeAll(2, 5));
        Check.same("counts", "0 1 120 0 0", Check.counts(shelf));
        shelf.back(1);
        for (int row = 0; row < 120; row++) {
            Check.same("where it was", row, shelf.find(0, row));
        }
    }

    private static void anyInt() {
        UndoShelf shelf = new UndoShelf();
        int[] ints = Check.EDGES;
        for (int v : ints) {
            shelf.insert(v, v, v, 7);
        }
        for (int i = 0; i < ints.length; i++) {
            Check.same("removeAll of " + ints[i], 1, shelf.removeAll(i % 3, ints[i]));
            Check.same("rows", ints.length - 1 - i, shelf.count(0));
        }
    }

    private static void wrongInputs() {
        UndoShelf shelf = Check.shelfOf(2);
        int[] columns = {-1, 3, 32, Integer.MIN_VALUE, Integer.MAX_VALUE};
        for (int column : columns) {
            Check.refused("column " + column, Check.BAD, shelf, () -> shelf.removeAll(column, 0));
        }
    }

    private static void fullChanges() {
        UndoShelf shelf = Check.shelfWithChanges(200);
        Check.refused("the 201st change", Check.CONFLICT, shelf, () -> shelf.removeAll(0, 0));
        Check.refused("bad comes first", Check.BAD, shelf, () -> shelf.removeAll(3, 0));
        Check.same("no row, no change", 0, shelf.removeAll(0, 5));
    }

    private static void allOrNone() {
        UndoShelf shelf = Check.shelfOf(6);
        shelf.mark(1);
        for (int i = 0; i < 198; i++) {
            shelf.set(0, 2, 9, false);
        }
        shelf.set(1, 2, 9, false);
        Check.same("changes", 199, shelf.count(2));
        Check.refused("two where one more fits", Check.CONFLICT, shelf, () -> shelf.removeAll(2, 9));
        Check.same("one fits", 1, shelf.removeAll(0, 3));
        Check.same("changes at the limit", 200, shelf.count(2));
        shelf.release(1);
        Check.same("without points all fit", 2, shelf.removeAll(2, 9));
        Check.same("table", "2 1002 2 | 4 1004 0 | 5 1005 1", Check.table(shelf));
    }
}
