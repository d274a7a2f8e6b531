/** Terms: the rows, their order, their columns and their values. */
public final class RowsTest {
    private static final int[] INTS = Check.EDGES;

    public static void main(String[] args) {
        atMost120();
        roomForAsManyAsWent();
        fullAgainAfterBack();
        roomAgainAfterBack();
        emptyTable();
        emptyAgain();
        inOrderAsTheyCame();
        anyIntInAnyColumn();
        noneInColumns1And2();
        columns0To2();
        column0IsNeverNone();
        Check.finish();
    }

    // "ROWS: at most 120"
    private static void atMost120() {
        UndoShelf shelf = Check.shelfOf(120);
        Check.thrown("the 121st", Check.CONFLICT, () -> shelf.insert(120, 1120, 0, 7));
        Check.thrown("the 121st, with nones", Check.CONFLICT, () -> shelf.insert(120, 0, 0, 1));
        Check.same("the 120 stand", Check.tableOf(120), Check.table(shelf));
    }

    private static void roomForAsManyAsWent() {
        UndoShelf shelf = Check.shelfOf(120);
        shelf.remove(119);
        Check.same("for the last", 119, shelf.insert(200, 0, 0, 1));
        shelf.remove(0);
        Check.same("for the first", 119, shelf.insert(201, 0, 0, 1));
        Check.thrown("for one only", Check.CONFLICT, () -> shelf.insert(202, 0, 0, 1));
        Check.same("removeAll", 30, shelf.removeAll(2, 1));
        for (int i = 0; i < 30; i++) {
            Check.same("for each of 30", 90 + i, shelf.insert(300 + i, 0, 0, 1));
        }
        Check.thrown("for 30 only", Check.CONFLICT, () -> shelf.insert(330, 0, 0, 1));
        Check.same("rows", 120, shelf.count(0));
    }

    private static void fullAgainAfterBack() {
        UndoShelf shelf = Check.shelfOf(120);
        shelf.mark(1);
        Check.same("removeAll", 30, shelf.removeAll(2, 0));
        for (int i = 0; i < 30; i++) {
            Check.same("insert " + i, 90 + i, shelf.insert(200 + i, 0, 0, 1));
        }
        Check.thrown("full before", Check.CONFLICT, () -> shelf.insert(300, 0, 0, 1));
        shelf.back(1);
        Check.thrown("full after", Check.CONFLICT, () -> shelf.insert(300, 0, 0, 1));
        for (int i = 0; i < 120; i++) {
            Check.same("the row of key " + i, i, shelf.find(0, i));
        }
    }

    private static void roomAgainAfterBack() {
        UndoShelf shelf = Check.shelfOf(119);
        shelf.mark(1);
        Check.same("the 120th", 119, shelf.insert(119, 0, 0, 1));
        Check.thrown("the 121st", Check.CONFLICT, () -> shelf.insert(120, 0, 0, 1));
        shelf.back(1);
        Check.same("the 120th again", 119, shelf.insert(120, 0, 0, 1));
        Check.thrown("the 121st again", Check.CONFLICT, () -> shelf.insert(119, 0, 0, 1));
    }

    private static void emptyTable() {
        holdsNothing("new", new UndoShelf());
    }

    private static void emptyAgain() {
        UndoShelf removed = Check.shelfOf(1);
        removed.remove(0);
        holdsNothing("its row removed", removed);
        UndoShelf allRemoved = Check.shelfOf(120);
        for (int v = 0; v < 4; v++) {
            Check.same("removeAll " + v, 30, allRemoved.removeAll(2, v));
        }
        holdsNothing("120 rows removed", allRemoved);
        UndoShelf goneBack = new UndoShelf();
        goneBack.mark(1);
        goneBack.insert(0, 0, 0, 7);
        goneBack.back(1);
        holdsNothing("its insert undone", goneBack);
    }

    private static void holdsNothing(String what, UndoShelf shelf) {
        Check.same(what + ": rows", 0, shelf.count(0));
        Check.same(what + ": none in column 1", 0, shelf.count(3));
        Check.same(what + ": none in column 2", 0, shelf.count(4));
        for (int column = 0; column < 3; column++) {
            int at = column;
            Check.thrown(what + ": value", Check.MISSING, () -> shelf.value(0, at));
            Check.thrown(what + ": set", Check.MISSING, () -> shelf.set(0, at, 0, false));
            Check.same(what + ": removeAll", 0, shelf.removeAll(at, 0));
        }
        Check.thrown(what + ": remove", Check.MISSING, () -> shelf.remove(0));
        Check.same(what + ": find in column 0", -1, shelf.find(0, 0));
        Check.same(what + ": find in column 1", -1, shelf.find(1, 0));
        Check.same(what + ": the first row's number", 0, shelf.insert(0, 0, 0, 7));
    }

    // "in order as they came"
    private static void inOrderAsTheyCame() {
        UndoShelf shelf = new UndoShelf();
        shelf.insert(30, 1, 5, 7);
        shelf.insert(10, 3, 5, 7);
        shelf.insert(20, 2, 5, 7);
        Check.same("not by key", "30 1 5 | 10 3 5 | 20 2 5", Check.table(shelf));
        shelf.set(0, 0, 15, false);
        shelf.set(2, 1, 0, true);
        Check.same("a row that is set stays", "15 1 5 | 10 3 5 | 20 - 5", Check.table(shelf));
        shelf.remove(0);
        shelf.insert(15, 1, 5, 7);
        Check.same("a row that comes again is the last", "10 3 5 | 20 - 5 | 15 1 5", Check.table(shelf));
    }

    // "each has three VALUES: an int or none, in COLUMNS 0 .. 2"
    private static void anyIntInAnyColumn() {
        UndoShelf inserted = new UndoShelf();
        UndoShelf changed = Check.shelfOf(INTS.length);
        for (int row = 0; row < INTS.length; row++) {
            inserted.insert(INTS[row], INTS[row], INTS[row], 7);
            // So that the keys 0 and 1 are given up before other rows ask for them.
            changed.set(row, 0, 100 + row, false);
        }
        for (int row = 0; row < INTS.length; row++) {
            for (int column = 0; column < 3; column++) {
                changed.set(row, column, INTS[row], false);
                Check.same("inserted", INTS[row], inserted.value(row, column));
                Check.same("set", INTS[row], changed.value(row, column));
            }
        }
        for (int v : INTS) {
            for (int column = 0; column < 2; column++) {
                Check.same("find of " + v, inserted.find(column, v), changed.find(column, v));
            }
        }
    }

    private static void noneInColumns1And2() {
        UndoShelf shelf = new UndoShelf();
        for (int row = 0; row < 120; row++) {
            Check.same("insert", row, shelf.insert(row, 0, 0, 1));
        }
        Check.same("none in column 1", 120, shelf.count(3));
        Check.same("none in column 2", 120, shelf.count(4));
        for (int row = 0; row < 120; row += 119) {
            int at = row;
            Check.thrown("column 1 of row " + at, Check.MISSING, () -> shelf.value(at, 1));
            Check.thrown("column 2 of row " + at, Check.MISSING, () -> shelf.value(at, 2));
        }
    }

    private static void columns0To2() {
        UndoShelf shelf = Check.shelfOf(3);
        int[] outside = {-1, 3, Integer.MIN_VALUE, Integer.MAX_VALUE};
        for (int column : outside) {
            Check.refused("set in " + column, Check.BAD, shelf, () -> shelf.set(0, column, 50, false));
            Check.refused("none in " + column, Check.BAD, shelf, () -> shelf.set(0, column, 50, true));
            Check.refused("value in " + column, Check.BAD, shelf, () -> shelf.value(0, column));
            Check.refused("removeAll in " + column, Check.BAD, shelf, () -> shelf.removeAll(column, 0));
        }
        for (int column = 0; column < 3; column++) {
            shelf.set(0, column, 50, false);
            Check.same("value in " + column, 50, shelf.value(0, column));
        }
        Check.same("removeAll in 0", 1, shelf.removeAll(0, 1));
        Check.same("removeAll in 1", 1, shelf.removeAll(1, 1002));
        Check.same("removeAll in 2", 1, shelf.removeAll(2, 50));
    }

    // "COLUMN 0 is never none"
    private static void column0IsNeverNone() {
        UndoShelf shelf = Check.shelfOf(3);
        for (int has = 0; has < 8; has += 2) {
            int bits = has;
            Check.refused("has " + has, Check.CONFLICT, shelf, () -> shelf.insert(9, 9, 9, bits));
        }
        for (int row = 0; row < 3; row++) {
            int at = row;
            Check.refused("row " + row, Check.CONFLICT, shelf, () -> shelf.set(at, 0, 9, true));
            Check.refused("row " + row + ", its own key", Check.CONFLICT, shelf, () -> shelf.set(at, 0, at, true));
        }
        shelf.set(2, 1, 0, true);
        shelf.set(2, 2, 0, true);
        Check.refused("the last value of its row", Check.CONFLICT, shelf, () -> shelf.set(2, 0, 0, true));
    }
}
