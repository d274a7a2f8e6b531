/** Terms: what a change is, and "more than 200 CHANGES since the oldest POINT (without POINTS none are kept)". */
public final class ChangesTest {
    public static void main(String[] args) {
        whatIsAChange();
        whatIsNone();
        the200thOfEachKind();
        the201stOfEachKind();
        removeAllUpTo200();
        removeAllBeyond200();
        aLaterPointGivesNoRoom();
        backToALaterPointGivesItsRoom();
        backToTheOldestGivesAllRoom();
        releaseOfALaterPointGivesNoRoom();
        releaseOfTheOldestKeepsNone();
        withoutPointsNoneAreKept();
        Check.finish();
    }

    // "CHANGES: an insert, a VALUE set, a ROW removed"
    private static void whatIsAChange() {
        UndoShelf shelf = Check.shelfOf(6);
        shelf.mark(1);
        shelf.insert(50, 50, 50, 7);
        Check.same("an insert", 1, shelf.count(2));
        shelf.set(0, 2, 9, false);
        Check.same("a value set", 2, shelf.count(2));
        shelf.set(0, 2, 9, false);
        Check.same("a value set to what it was", 3, shelf.count(2));
        shelf.set(0, 2, 9, true);
        Check.same("none set", 4, shelf.count(2));
        shelf.remove(0);
        Check.same("a row removed", 5, shelf.count(2));
        Check.same("removeAll", 2, shelf.removeAll(2, 1));
        Check.same("two rows removed", 7, shelf.count(2));
    }

    private static void whatIsNone() {
        UndoShelf shelf = Check.shelfOf(2);
        shelf.mark(1);
        shelf.set(0, 2, 9, false);
        shelf.mark(2);
        shelf.find(0, 0);
        shelf.value(0, 0);
        Check.same("removeAll of no row", 0, shelf.removeAll(2, 77));
        shelf.back(2);
        shelf.release(2);
        Check.thrown("a refused set", Check.CONFLICT, () -> shelf.set(0, 0, 1, false));
        Check.thrown("a refused insert", Check.CONFLICT, () -> shelf.insert(0, 0, 0, 7));
        Check.thrown("a refused remove", Check.MISSING, () -> shelf.remove(2));
        Check.same("changes kept", 1, shelf.count(2));
    }

    private static void the200thOfEachKind() {
        Check.same("insert", 1, Check.shelfWithChanges(199).insert(5, 5, 5, 7));
        UndoShelf set = Check.shelfWithChanges(199);
        set.set(0, 2, 500, false);
        Check.same("set", 500, set.value(0, 2));
        UndoShelf none = Check.shelfWithChanges(199);
        none.set(0, 2, 500, true);
        Check.same("none", 1, none.count(4));
        UndoShelf removed = Check.shelfWithChanges(199);
        removed.remove(0);
        Check.same("remove", 0, removed.count(0));
        Check.same("removeAll", 1, Check.shelfWithChanges(199).removeAll(0, 0));
        UndoShelf[] undone = {set, none, removed};
        for (UndoShelf shelf : undone) {
            Check.same("changes kept", 200, shelf.count(2));
            shelf.back(0);
            Check.same("all 200 undone", Check.tableOf(1), Check.table(shelf));
        }
    }

    private static void the201stOfEachKind() {
        UndoShelf shelf = Check.shelfWithChanges(200);
        Check.refused("insert", Check.CONFLICT, shelf, () -> shelf.insert(5, 5, 5, 7));
        Check.refused("set", Check.CONFLICT, shelf, () -> shelf.set(0, 2, 500, false));
        Check.refused("set to what it is", Check.CONFLICT, shelf, () -> shelf.set(0, 2, 199, false));
        Check.refused("none", Check.CONFLICT, shelf, () -> shelf.set(0, 2, 0, true));
        Check.refused("remove", Check.CONFLICT, shelf, () -> shelf.remove(0));
        Check.refused("removeAll", Check.CONFLICT, shelf, () -> shelf.removeAll(2, 199));
        Check.same("removeAll of no row", 0, shelf.removeAll(2, 500));
        Check.same("changes kept", 200, shelf.count(2));
        shelf.back(0);
        Check.same("all 200 undone", Check.tableOf(1), Check.table(shelf));
    }

    /** 120 rows with 9 in column 2, a point, and so many changes since. */
    private static UndoShelf nines(int changes) {
        UndoShelf shelf = new UndoShelf();
        for (int row = 0; row < 120; row++) {
            shelf.insert(row, 1000 + row, 9, 7);
        }
        shelf.mark(1);
        for (int i = 0; i < changes; i++) {
            shelf.set(0, 2, 9, false);
        }
        return shelf;
    }

    private static void removeAllUpTo200() {
        UndoShelf shelf = nines(80);
        Check.same("removeAll", 120, shelf.removeAll(2, 9));
        Check.same("counts", "0 1 200 0 0", Check.counts(shelf));
        shelf.back(1);
        for (int row = 0; row < 120; row++) {
            Check.same("where it was", row, shelf.find(0, row));
        }
    }

    private static void removeAllBeyond200() {
        UndoShelf shelf = nines(81);
        Check.refusedOnFull("removeAll", Check.CONFLICT, shelf, () -> shelf.removeAll(2, 9));
        for (int row = 0; row < 120; row++) {
            Check.same("none is removed", row, shelf.find(1, 1000 + row));
        }
        shelf.set(119, 2, 8, false);
        shelf.release(1);
        Check.same("removeAll without points", 119, shelf.removeAll(2, 9));
        Check.same("counts", "1 0 0 0 0", Check.counts(shelf));
    }

    // "since the oldest POINT"
    private static void aLaterPointGivesNoRoom() {
        UndoShelf shelf = Check.shelfWithChanges(199);
        shelf.mark(1);
        shelf.set(0, 2, 500, false);
        shelf.mark(2);
        Check.same("points", 3, shelf.count(1));
        Check.refused("the 201st", Check.CONFLICT, shelf, () -> shelf.set(0, 2, 501, false));
        shelf.back(1);
        Check.same("what stood there", 198, shelf.value(0, 2));
    }

    private static void backToALaterPointGivesItsRoom() {
        UndoShelf shelf = Check.shelfWithChanges(150);
        shelf.mark(1);
        Check.setTimes(shelf, 50);
        Check.refused("the 201st", Check.CONFLICT, shelf, () -> shelf.remove(0));
        shelf.back(1);
        Check.same("changes kept", 150, shelf.count(2));
        Check.setTimes(shelf, 50);
        Check.refused("the 201st again", Check.CONFLICT, shelf, () -> shelf.remove(0));
        shelf.back(0);
        Check.same("all undone", Check.tableOf(1), Check.table(shelf));
    }

    private static void backToTheOldestGivesAllRoom() {
        UndoShelf shelf = Check.shelfWithChanges(200);
        shelf.back(0);
        Check.same("changes kept", 0, shelf.count(2));
        Check.setTimes(shelf, 200);
        Check.refused("the 201st again", Check.CONFLICT, shelf, () -> shelf.remove(0));
    }

    private static void releaseOfALaterPointGivesNoRoom() {
        UndoShelf shelf = Check.shelfWithChanges(150);
        shelf.mark(1);
        Check.setTimes(shelf, 50);
        shelf.release(1);
        Check.same("changes kept", 200, shelf.count(2));
        Check.refused("the 201st", Check.CONFLICT, shelf, () -> shelf.remove(0));
    }

    private static void releaseOfTheOldestKeepsNone() {
        UndoShelf shelf = Check.shelfWithChanges(200);
        shelf.mark(1);
        shelf.release(0);
        Check.same("changes kept", 0, shelf.count(2));
        shelf.set(0, 2, 500, false);
        Check.same("still", 0, shelf.count(2));
        shelf.mark(2);
        Check.setTimes(shelf, 200);
        Check.refused("the 201st", Check.CONFLICT, shelf, () -> shelf.remove(0));
        shelf.back(2);
        Check.same("what stood there", 500, shelf.value(0, 2));
    }

    // "(without POINTS none are kept)"
    private static void withoutPointsNoneAreKept() {
        UndoShelf shelf = Check.shelfOf(100);
        Check.setTimes(shelf, 101);
        Check.same("after 201", 0, shelf.count(2));
        Check.same("removeAll", 25, shelf.removeAll(2, 3));
        Check.same("after 226", 0, shelf.count(2));
        shelf.remove(0);
        shelf.mark(1);
        Check.same("a point counts from itself on", 0, shelf.count(2));
        shelf.remove(0);
        shelf.back(1);
        Check.same("what came before it stays", "74 1 0 0 0", Check.counts(shelf));
    }
}
