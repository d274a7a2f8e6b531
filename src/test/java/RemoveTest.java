/** Promise 4. */
public final class RemoveTest {
    public static void main(String[] args) {
        removesFirstMiddleLast();
        wrongInputs();
        fromAFullTable();
        theOnlyRow();
        firstOfAllUntilEmpty();
        fullChanges();
        Check.finish();
    }

    private static void removesFirstMiddleLast() {
        UndoShelf shelf = Check.shelfOf(5);
        shelf.set(3, 1, 0, true);
        shelf.remove(2);
        Check.same("middle", "0 1000 0 | 1 1001 1 | 3 - 3 | 4 1004 0", Check.table(shelf));
        Check.same("a row behind has a lower number", 2, shelf.find(0, 3));
        shelf.remove(0);
        Check.same("first", "1 1001 1 | 3 - 3 | 4 1004 0", Check.table(shelf));
        shelf.remove(2);
        Check.same("last", "1 1001 1 | 3 - 3", Check.table(shelf));
        shelf.remove(1);
        shelf.remove(0);
        Check.same("all", "0 0 0 0 0", Check.counts(shelf));
        Check.refused("no row left", Check.MISSING, shelf, () -> shelf.remove(0));
    }

    private static void wrongInputs() {
        UndoShelf shelf = Check.shelfOf(2);
        int[] rows = {-1, 2, 119, 120, Integer.MIN_VALUE, Integer.MAX_VALUE, 1 << 30};
        for (int row : rows) {
            Check.refused("row " + row, Check.MISSING, shelf, () -> shelf.remove(row));
        }
    }

    private static void fromAFullTable() {
        UndoShelf shelf = Check.shelfOf(120);
        shelf.mark(1);
        shelf.remove(119);
        shelf.remove(0);
        Check.same("rows", 118, shelf.count(0));
        Check.same("last", 117, shelf.find(0, 118));
        Check.refusedOnFull("row 118", Check.MISSING, shelf, () -> shelf.remove(118));
        shelf.back(1);
        Check.same("first again", 0, shelf.find(0, 0));
        Check.same("last again", 119, shelf.find(0, 119));
    }

    private static void theOnlyRow() {
        UndoShelf shelf = Check.shelfOf(1);
        Check.refused("row -1", Check.MISSING, shelf, () -> shelf.remove(-1));
        Check.refused("row 1", Check.MISSING, shelf, () -> shelf.remove(1));
        shelf.remove(0);
        Check.refused("it went", Check.MISSING, shelf, () -> shelf.remove(0));
    }

    // "those behind it have lower numbers then"
    private static void firstOfAllUntilEmpty() {
        UndoShelf shelf = Check.shelfOf(120);
        for (int gone = 1; gone <= 119; gone++) {
            shelf.remove(0);
            Check.same("the row behind", gone, shelf.value(0, 0));
            Check.same("the last row", 119 - gone, shelf.find(0, 119));
        }
        Check.same("rows", 1, shelf.count(0));
    }

    private static void fullChanges() {
        UndoShelf shelf = Check.shelfWithChanges(200);
        Check.refused("the 201st change", Check.CONFLICT, shelf, () -> shelf.remove(0));
        Check.refused("missing comes first", Check.MISSING, shelf, () -> shelf.remove(1));
        shelf.release(0);
        shelf.remove(0);
        Check.same("without points there is room", 0, shelf.count(0));
    }
}
