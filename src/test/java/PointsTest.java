/** Terms: the points and their names. */
public final class PointsTest {
    public static void main(String[] args) {
        atMost20();
        atMost20OfOneName();
        roomAfterRelease();
        roomAfterBack();
        oneBehindAnother();
        anyNumberIsAName();
        theLatestOfManyIsMeantByBack();
        theLatestOfManyIsMeantByRelease();
        Check.finish();
    }

    // "POINTS: at most 20"
    private static void atMost20() {
        UndoShelf shelf = Check.shelfWithPoints(20);
        Check.refused("the 21st", Check.CONFLICT, shelf, () -> shelf.mark(20));
        for (int name = 19; name >= 0; name--) {
            shelf.back(name);
            Check.same("what stood at " + name, name == 0 ? 0 : 99 + name, shelf.value(0, 2));
            Check.same("points up to " + name, name + 1, shelf.count(1));
        }
    }

    private static void atMost20OfOneName() {
        UndoShelf shelf = new UndoShelf();
        for (int i = 0; i < 20; i++) {
            shelf.mark(7);
        }
        Check.refused("the 21st", Check.CONFLICT, shelf, () -> shelf.mark(7));
        Check.same("points", 20, shelf.count(1));
    }

    private static void roomAfterRelease() {
        UndoShelf shelf = Check.shelfWithPoints(20);
        shelf.release(19);
        shelf.mark(50);
        Check.refused("for one only", Check.CONFLICT, shelf, () -> shelf.mark(51));
        shelf.release(0);
        for (int i = 0; i < 20; i++) {
            shelf.mark(i);
        }
        Check.refused("for 20 only", Check.CONFLICT, shelf, () -> shelf.mark(51));
    }

    private static void roomAfterBack() {
        UndoShelf shelf = Check.shelfWithPoints(20);
        shelf.back(19);
        Check.refused("the latest stays", Check.CONFLICT, shelf, () -> shelf.mark(50));
        shelf.back(18);
        shelf.mark(50);
        Check.refused("for one only", Check.CONFLICT, shelf, () -> shelf.mark(51));
        shelf.back(0);
        for (int i = 1; i < 20; i++) {
            shelf.mark(i);
        }
        Check.refused("for 19 only", Check.CONFLICT, shelf, () -> shelf.mark(51));
    }

    // "one behind another"
    private static void oneBehindAnother() {
        UndoShelf shelf = Check.shelfOf(1);
        shelf.mark(5);
        shelf.mark(9);
        shelf.mark(1);
        shelf.back(9);
        Check.same("by when they were marked, not by number", 2, shelf.count(1));
        Check.refused("the one behind", Check.MISSING, shelf, () -> shelf.back(1));
        shelf.back(5);
        Check.same("the one before", 1, shelf.count(1));
    }

    // "each a number given by who marks it"
    private static void anyNumberIsAName() {
        int[] names = Check.EDGES;
        UndoShelf shelf = Check.shelfOf(1);
        for (int i = 0; i < names.length; i++) {
            shelf.mark(names[i]);
            shelf.set(0, 2, 10 + i, false);
        }
        for (int i = names.length - 1; i >= 0; i--) {
            int name = names[i];
            shelf.back(name);
            Check.same("what stood at " + name, i == 0 ? 0 : 9 + i, shelf.value(0, 2));
            shelf.release(name);
            Check.same("points before " + name, i, shelf.count(1));
            Check.refused("no longer " + name, Check.MISSING, shelf, () -> shelf.back(name));
        }
    }

    // "(it may be there already: the latest is meant)"
    private static void theLatestOfManyIsMeantByBack() {
        UndoShelf shelf = Check.shelfOf(1);
        for (int i = 0; i < 20; i++) {
            shelf.mark(7);
            shelf.set(0, 2, 100 + i, false);
        }
        for (int i = 19; i >= 0; i--) {
            shelf.back(7);
            shelf.back(7);
            Check.same("what stood at number " + i, i == 0 ? 0 : 99 + i, shelf.value(0, 2));
            Check.same("points", i + 1, shelf.count(1));
            shelf.release(7);
        }
        Check.refused("none is left", Check.MISSING, shelf, () -> shelf.back(7));
    }

    private static void theLatestOfManyIsMeantByRelease() {
        UndoShelf shelf = Check.shelfOf(1);
        int[] names = {7, 8, 7, 9, 7};
        for (int name : names) {
            shelf.mark(name);
        }
        shelf.release(7);
        Check.same("the fifth", 4, shelf.count(1));
        shelf.release(7);
        Check.same("the third", 2, shelf.count(1));
        shelf.release(7);
        Check.same("the first", 0, shelf.count(1));
    }
}
