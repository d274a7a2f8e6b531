/** Promise 11. */
public final class CountTest {
    public static void main(String[] args) {
        allNought();
        countsEach();
        allFull();
        elseMinusOne();
        Check.finish();
    }

    private static void allNought() {
        UndoShelf shelf = new UndoShelf();
        for (int what = 0; what <= 4; what++) {
            Check.same("count " + what, 0, shelf.count(what));
        }
    }

    private static void allFull() {
        UndoShelf shelf = new UndoShelf();
        for (int row = 0; row < 120; row++) {
            shelf.insert(row, 0, 0, 1);
        }
        for (int name = 0; name < 20; name++) {
            shelf.mark(name);
        }
        for (int i = 0; i < 200; i++) {
            shelf.set(0, 1, 0, true);
        }
        Check.same("counts", "120 20 200 120 120", Check.counts(shelf));
    }

    private static void countsEach() {
        UndoShelf shelf = new UndoShelf();
        shelf.insert(1, 0, 0, 1);
        shelf.insert(2, 0, 0, 3);
        shelf.insert(3, 0, 0, 5);
        shelf.insert(4, 0, 0, 1);
        shelf.insert(5, 5, 5, 7);
        shelf.insert(6, 6, 6, 3);
        Check.same("counts", "6 0 0 3 4", Check.counts(shelf));
        shelf.mark(1);
        shelf.mark(2);
        shelf.set(0, 1, 9, false);
        shelf.set(4, 2, 0, true);
        shelf.set(4, 2, 0, true);
        Check.same("after sets", "6 2 3 2 5", Check.counts(shelf));
        shelf.remove(3);
        Check.same("after a remove", "5 2 4 1 4", Check.counts(shelf));
        shelf.back(2);
        Check.same("after back", "6 2 0 3 4", Check.counts(shelf));
    }

    private static void elseMinusOne() {
        UndoShelf shelf = Check.shelfOf(2);
        int[] others = {-1, 5, 6, Integer.MIN_VALUE, Integer.MAX_VALUE};
        for (int what : others) {
            Check.same("count " + what, -1, shelf.count(what));
        }
    }
}
