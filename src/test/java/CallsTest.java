/** "An object is used for at most 512 calls after it has been made": all 512 are answered, the last as the first. */
public final class CallsTest {
    private static final int CALLS = 512;

    public static void main(String[] args) {
        inserts();
        insertsAndRemoves();
        insertsAndRemoveAlls();
        setsWithoutPoints();
        setsSinceAPoint();
        marks();
        marksAndReleases();
        backs();
        backsToALaterPoint();
        findsAndValues();
        Check.finish();
    }

    private static void inserts() {
        UndoShelf shelf = Check.shelfOf(120);
        for (int call = 121; call < CALLS; call++) {
            int key = call;
            Check.thrown("insert, call " + call, Check.CONFLICT, () -> shelf.insert(key, key, 0, 7));
        }
        Check.same("rows, call 512", 120, shelf.count(0));
    }

    private static void insertsAndRemoves() {
        UndoShelf shelf = new UndoShelf();
        for (int call = 1; call < CALLS - 1; call += 2) {
            Check.same("insert, call " + call, 0, shelf.insert(call, call, call, 7));
            shelf.remove(0);
        }
        Check.same("insert, call 511", 0, shelf.insert(1, 1, 1, 7));
        Check.same("find, call 512", 0, shelf.find(1, 1));
    }

    private static void insertsAndRemoveAlls() {
        UndoShelf shelf = new UndoShelf();
        for (int call = 1; call < CALLS; call += 2) {
            Check.same("insert, call " + call, 0, shelf.insert(1, 2, 3, 7));
            Check.same("removeAll, call " + (call + 1), 1, shelf.removeAll(2, 3));
        }
    }

    private static void setsWithoutPoints() {
        UndoShelf shelf = Check.shelfOf(1);
        Check.setTimes(shelf, CALLS - 2);
        Check.same("value, call 512", CALLS - 3, shelf.value(0, 2));
    }

    private static void setsSinceAPoint() {
        UndoShelf shelf = Check.shelfOf(1);
        shelf.mark(1);
        Check.setTimes(shelf, 200);
        for (int call = 203; call < CALLS - 1; call++) {
            Check.thrown("set, call " + call, Check.CONFLICT, () -> shelf.set(0, 2, -1, false));
        }
        shelf.back(1);
        Check.same("value, call 512", 0, shelf.value(0, 2));
    }

    private static void marks() {
        UndoShelf shelf = new UndoShelf();
        for (int call = 1; call <= 20; call++) {
            shelf.mark(call);
        }
        for (int call = 21; call < CALLS; call++) {
            int name = call;
            Check.thrown("mark, call " + call, Check.CONFLICT, () -> shelf.mark(name));
        }
        Check.same("points, call 512", 20, shelf.count(1));
    }

    private static void marksAndReleases() {
        UndoShelf shelf = Check.shelfOf(1);
        for (int round = 1; round <= 169; round++) {
            shelf.mark(7);
            shelf.set(0, 2, round, false);
            shelf.release(7);
        }
        Check.same("value, call 509", 169, shelf.value(0, 2));
        Check.same("rows, call 510", 1, shelf.count(0));
        Check.same("points, call 511", 0, shelf.count(1));
        Check.same("changes kept, call 512", 0, shelf.count(2));
    }

    private static void backs() {
        UndoShelf shelf = new UndoShelf();
        shelf.mark(7);
        for (int call = 2; call < CALLS; call += 2) {
            Check.same("insert, call " + call, 0, shelf.insert(1, 2, 3, 7));
            shelf.back(7);
        }
        Check.same("rows, call 512", 0, shelf.count(0));
    }

    private static void backsToALaterPoint() {
        UndoShelf shelf = new UndoShelf();
        shelf.mark(0);
        for (int round = 1; round <= 127; round++) {
            shelf.mark(1);
            Check.same("insert, round " + round, 0, shelf.insert(1, 2, 3, 7));
            shelf.back(1);
            shelf.release(1);
        }
        Check.same("rows, call 510", 0, shelf.count(0));
        Check.same("points, call 511", 1, shelf.count(1));
        Check.same("changes kept, call 512", 0, shelf.count(2));
    }

    private static void findsAndValues() {
        UndoShelf shelf = Check.shelfOf(2);
        for (int call = 3; call < CALLS; call += 2) {
            Check.same("find, call " + call, 1, shelf.find(0, 1));
            Check.same("value, call " + (call + 1), 1001, shelf.value(1, 1));
        }
    }
}
