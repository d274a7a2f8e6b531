/** Promise 6. */
public final class FindTest {
    public static void main(String[] args) {
        findsByEitherKey();
        wrongInputs();
        Check.finish();
    }

    private static void findsByEitherKey() {
        UndoShelf shelf = new UndoShelf();
        shelf.insert(10, 20, 30, 7);
        shelf.insert(20, 10, 30, 7);
        shelf.insert(30, 40, 50, 1);
        shelf.insert(Integer.MIN_VALUE, -1, 0, 7);
        Check.same("column 0, first", 0, shelf.find(0, 10));
        Check.same("column 0, second", 1, shelf.find(0, 20));
        Check.same("column 1, first", 0, shelf.find(1, 20));
        Check.same("column 1, second", 1, shelf.find(1, 10));
        Check.same("the least int", 3, shelf.find(0, Integer.MIN_VALUE));
        Check.same("-1 as a key", 3, shelf.find(1, -1));
        Check.same("a value of column 2", -1, shelf.find(1, 30));
        Check.same("where none is", -1, shelf.find(1, 40));
        Check.same("0 is not none", -1, shelf.find(1, 0));
        shelf.remove(0);
        Check.same("removed", -1, shelf.find(0, 10));
        Check.same("behind it", 0, shelf.find(0, 20));
        shelf.remove(2);
        Check.same("the last removed", -1, shelf.find(1, -1));
    }

    private static void wrongInputs() {
        UndoShelf shelf = Check.shelfOf(2);
        int[] columns = {2, 3, -1, 32, Integer.MIN_VALUE, Integer.MAX_VALUE};
        for (int column : columns) {
            Check.refused("column " + column, Check.BAD, shelf, () -> shelf.find(column, 0));
        }
    }
}
