/** Promise 6. */
public final class FindTest {
    public static void main(String[] args) {
        findsByEitherKey();
        inNoRows();
        firstAndLastOf120();
        wrongInputs();
        Check.finish();
    }

    private static void findsByEitherKey() {
        UndoShelf shelf = new UndoShelf();
        shelf.insert(10, 20, 30, 7);
        shelf.insert(20, 10, 30, 7);
        shelf.insert(30, 40, 50, 1);
        shelf.insert(Integer.MIN_VALUE, -1, 0, 7);
        Check.same("column 0, first", 0, shelf.find(0, 10));
        Check.same("column 0, second", 1, shelf.find(0, 20));
        Check.same("column 1, first", 0, shelf.find(1, 20));
        Check.same("column 1, second", 1, shelf.find(1, 10));
        Check.same("the least int", 3, shelf.find(0, Integer.MIN_VALUE));
        Check.same("-1 as a key", 3, shelf.find(1, -1));
        Check.same("a value of column 2", -1, shelf.find(1, 30));
        Check.same("where none is", -1, shelf.find(1, 40));
        Check.same("0 is not none", -1, shelf.find(1, 0));
        shelf.remove(0);
        Check.same("removed", -1, shelf.find(0, 10));
        Check.same("behind it", 0, shelf.find(0, 20));
        shelf.remove(2);
        Check.same("the last removed", -1, shelf.find(1, -1));
    }

    private static void inNoRows() {
        UndoShelf shelf = new UndoShelf();
        for (int key : Check.EDGES) {
            Check.same("column 0", -1, shelf.find(0, key));
            Check.same("column 1", -1, shelf.find(1, key));
        }
    }

    private static void firstAndLastOf120() {
        UndoShelf shelf = Check.shelfOf(120);
        Check.same("first, column 0", 0, shelf.find(0, 0));
        Check.same("first, column 1", 0, shelf.find(1, 1000));
        Check.same("last, column 0", 119, shelf.find(0, 119));
        Check.same("last, column 1", 119, shelf.find(1, 1119));
        Check.same("one below, column 0", -1, shelf.find(0, -1));
        Check.same("one above, column 0", -1, shelf.find(0, 120));
        Check.same("one below, column 1", -1, shelf.find(1, 999));
        Check.same("one above, column 1", -1, shelf.find(1, 1120));
    }

    private static void wrongInputs() {
        UndoShelf shelf = Check.shelfOf(2);
        int[] columns = {2, 3, -1, 32, Integer.MIN_VALUE, Integer.MAX_VALUE};
        for (int column : columns) {
            Check.refused("column " + column, Check.BAD, shelf, () -> shelf.find(column, 0));
        }
    }
}
