/** Promise 2. */
public final class InsertTest {
    public static void main(String[] args) {
        goesToTheEnd();
        noneWhereHasIsNotSet();
        eachHas();
        badHas();
        eachBitBeyond();
        keysThatAreThere();
        fullTable();
        fullChanges();
        Check.finish();
    }

    private static void goesToTheEnd() {
        UndoShelf shelf = new UndoShelf();
        Check.same("first", 0, shelf.insert(5, 6, 7, 7));
        Check.same("second", 1, shelf.insert(Integer.MIN_VALUE, Integer.MAX_VALUE, -1, 7));
        Check.same("third", 2, shelf.insert(1, 2, 7, 7));
        shelf.remove(0);
        Check.same("after a remove", 2, shelf.insert(5, 6, 7, 7));
        Check.same("table", "-2147483648 2147483647 -1 | 1 2 7 | 5 6 7", Check.table(shelf));
    }

    private static void noneWhereHasIsNotSet() {
        UndoShelf shelf = new UndoShelf();
        shelf.insert(1, 8, 9, 1);
        shelf.insert(2, 8, 9, 3);
        shelf.insert(3, 8, 9, 5);
        shelf.insert(4, 0, 0, 1);
        Check.same("table", "1 - - | 2 8 - | 3 - 9 | 4 - -", Check.table(shelf));
        Check.same("a key that was not set", 1, shelf.find(1, 8));
        Check.same("none is not 0", -1, shelf.find(1, 0));
        Check.refused("none in column 0", Check.CONFLICT, shelf, () -> shelf.insert(5, 5, 5, 6));
        Check.refused("all none", Check.CONFLICT, shelf, () -> shelf.insert(5, 5, 5, 0));
    }

    // "none where has isn't set (bits 0 .. 2 of has, ...)"
    private static void eachHas() {
        String[] due = {"5 - -", "5 6 -", "5 - 7", "5 6 7"};
        for (int has = 1; has < 8; has += 2) {
            UndoShelf shelf = new UndoShelf();
            Check.same("has " + has, 0, shelf.insert(5, 6, 7, has));
            Check.same("has " + has, due[has / 2], Check.table(shelf));
        }
    }

    // "others: bad"
    private static void eachBitBeyond() {
        UndoShelf shelf = Check.shelfOf(1);
        for (int bit = 3; bit < 32; bit++) {
            int has = 1 << bit | 7;
            Check.thrown("bit " + bit, Check.BAD, () -> shelf.insert(50, 51, 52, has));
        }
        Check.same("rows", 1, shelf.count(0));
    }

    private static void badHas() {
        UndoShelf shelf = Check.shelfOf(2);
        int[] bad = {8, 9, 15, 16, 1 << 30, Integer.MIN_VALUE, Integer.MIN_VALUE + 7, -1, Integer.MAX_VALUE};
        for (int has : bad) {
            Check.refused("has " + has, Check.BAD, shelf, () -> shelf.insert(50, 51, 52, has));
        }
        Check.refused("bad comes before conflict", Check.BAD, shelf, () -> shelf.insert(0, 1000, 0, 15));
        Check.refused("bad comes before none in column 0", Check.BAD, shelf, () -> shelf.insert(9, 9, 9, 8));
    }

    private static void keysThatAreThere() {
        UndoShelf shelf = new UndoShelf();
        shelf.insert(1, 2, 3, 7);
        shelf.insert(4, 5, 6, 5);
        Check.refused("key 0", Check.CONFLICT, shelf, () -> shelf.insert(1, 9, 9, 7));
        Check.refused("key 1", Check.CONFLICT, shelf, () -> shelf.insert(9, 2, 9, 7));
        Check.refused("key 0 with none beside it", Check.CONFLICT, shelf, () -> shelf.insert(4, 0, 0, 1));
        Check.same("columns are apart; column 2 is no key", 2, shelf.insert(2, 1, 3, 7));
        Check.same("none hides no key", 3, shelf.insert(7, 5, 3, 7));
        Check.same("a key of column 1 that is not set is free", 4, shelf.insert(8, 2, 3, 5));
        shelf.remove(0);
        Check.same("the keys of a removed row are free", 4, shelf.insert(1, 2, 3, 7));
    }

    private static void fullTable() {
        UndoShelf shelf = Check.shelfOf(119);
        Check.same("the 120th", 119, shelf.insert(119, 0, 0, 1));
        Check.refusedOnFull("the 121st", Check.CONFLICT, shelf, () -> shelf.insert(120, 0, 0, 1));
        Check.refusedOnFull("bad comes before too many", Check.BAD, shelf, () -> shelf.insert(120, 0, 0, 9));
        shelf.remove(3);
        Check.same("where one went", 119, shelf.insert(120, 0, 0, 1));
    }

    private static void fullChanges() {
        UndoShelf shelf = Check.shelfWithChanges(199);
        Check.same("the 200th change", 1, shelf.insert(7, 7, 7, 7));
        Check.same("changes", 200, shelf.count(2));
        Check.refused("the 201st change", Check.CONFLICT, shelf, () -> shelf.insert(8, 8, 8, 7));
        Check.refused("bad comes first", Check.BAD, shelf, () -> shelf.insert(8, 8, 8, 8));
        shelf.back(0);
        Check.same("table", "0 1000 0", Check.table(shelf));
    }
}
