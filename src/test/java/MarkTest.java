/** Promise 8. */
public final class MarkTest {
    public static void main(String[] args) {
        marksAnyNumber();
        atMostTwenty();
        keepsChangesFromTheOldestOn();
        withoutPointsNoChangeIsTooMany();
        Check.finish();
    }

    private static void marksAnyNumber() {
        UndoShelf shelf = new UndoShelf();
        int[] names = {0, -1, Integer.MIN_VALUE, Integer.MAX_VALUE, 0, 0};
        for (int i = 0; i < names.length; i++) {
            shelf.mark(names[i]);
            Check.same("points", i + 1, shelf.count(1));
        }
        shelf.release(Integer.MIN_VALUE);
        Check.same("the least int is a name", 2, shelf.count(1));
        shelf.release(0);
        Check.same("the first stood under its name", 0, shelf.count(1));
    }

    private static void atMostTwenty() {
        UndoShelf shelf = Check.shelfOf(1);
        for (int i = 0; i < 20; i++) {
            shelf.mark(i);
        }
        Check.same("points", 20, shelf.count(1));
        Check.refused("the 21st", Check.CONFLICT, shelf, () -> shelf.mark(20));
        Check.refused("the 21st, of a name that's there", Check.CONFLICT, shelf, () -> shelf.mark(3));
        shelf.back(3);
        Check.same("the refused mark was not the latest", 4, shelf.count(1));
        Check.refused("a refused name is not there", Check.MISSING, shelf, () -> shelf.back(20));
        shelf.mark(20);
        Check.same("room again", 5, shelf.count(1));
    }

    private static void keepsChangesFromTheOldestOn() {
        UndoShelf shelf = Check.shelfOf(3);
        Check.same("without points none", 0, shelf.count(2));
        shelf.mark(1);
        Check.same("a mark is no change", 0, shelf.count(2));
        shelf.remove(0);
        shelf.mark(2);
        shelf.remove(0);
        Check.same("since the oldest", 2, shelf.count(2));
        UndoShelf full = Check.shelfWithChanges(200);
        full.mark(1);
        Check.refused("a later point gives no room", Check.CONFLICT, full, () -> full.set(0, 2, 1, false));
        Check.same("points", 2, full.count(1));
    }

    private static void withoutPointsNoChangeIsTooMany() {
        UndoShelf shelf = Check.shelfOf(1);
        for (int i = 0; i < 250; i++) {
            shelf.set(0, 2, i, false);
        }
        Check.same("changes kept", 0, shelf.count(2));
        shelf.mark(1);
        shelf.set(0, 2, 250, false);
        shelf.back(1);
        Check.same("what came before the point stays", 249, shelf.value(0, 2));
    }
}
