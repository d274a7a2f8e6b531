/** The example of README.md, with what its comments say. */
public final class UseTest {
    public static void main(String[] args) {
        UndoShelf shelf = new UndoShelf();
        state(shelf, "", "0 0 0 0 0");
        int row = shelf.insert(1, 2, 3, 7);
        Check.same("the row's number", 0, row);
        state(shelf, "1 2 3", "1 0 0 0 0");
        shelf.insert(5, 0, 0, 1);
        state(shelf, "1 2 3 | 5 - -", "2 0 0 1 1");
        shelf.mark(42);
        state(shelf, "1 2 3 | 5 - -", "2 1 0 1 1");
        shelf.set(row, 1, 9, false);
        state(shelf, "1 9 3 | 5 - -", "2 1 1 1 1");
        shelf.set(row, 2, 0, true);
        state(shelf, "1 9 - | 5 - -", "2 1 2 1 2");
        shelf.remove(shelf.find(0, 5));
        state(shelf, "1 9 -", "1 1 3 0 1");
        shelf.back(42);
        state(shelf, "1 2 3 | 5 - -", "2 1 0 1 1");
        shelf.release(42);
        state(shelf, "1 2 3 | 5 - -", "2 0 0 1 1");
        Check.finish();
    }

    private static void state(UndoShelf shelf, String table, String counts) {
        Check.same("table", table, Check.table(shelf));
        Check.same("counts", counts, Check.counts(shelf));
    }
}
