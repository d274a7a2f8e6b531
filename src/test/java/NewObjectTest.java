/** Promise 1. */
public final class NewObjectTest {
    public static void main(String[] args) {
        UndoShelf shelf = new UndoShelf();
        Check.same("counts", "0 0 0 0 0", Check.counts(shelf));
        Check.same("find in column 0", -1, shelf.find(0, 0));
        Check.same("find in column 1", -1, shelf.find(1, 0));
        Check.same("removeAll", 0, shelf.removeAll(0, 0));
        Check.refused("value", Check.MISSING, shelf, () -> shelf.value(0, 0));
        Check.refused("set", Check.MISSING, shelf, () -> shelf.set(0, 0, 0, false));
        Check.refused("remove", Check.MISSING, shelf, () -> shelf.remove(0));
        Check.refused("back", Check.MISSING, shelf, () -> shelf.back(0));
        Check.refused("release", Check.MISSING, shelf, () -> shelf.release(0));
        twoShelvesShareNothing();
        Check.finish();
    }

    private static void twoShelvesShareNothing() {
        UndoShelf one = new UndoShelf();
        UndoShelf other = new UndoShelf();
        one.mark(1);
        one.insert(1, 2, 3, 7);
        Check.same("the other's counts", "0 0 0 0 0", Check.counts(other));
        Check.same("the other's insert", 0, other.insert(1, 2, 3, 7));
    }
}
