import java.util.NoSuchElementException;

/** Tells every answer that is not the one that is due, and ends with exit code 1 if there was one. */
final class Check {
    static final Class<?> BAD = IllegalArgumentException.class;
    static final Class<?> MISSING = NoSuchElementException.class;
    static final Class<?> CONFLICT = IllegalStateException.class;

    static final int[] EDGES = {Integer.MIN_VALUE, -1, 0, 1, Integer.MAX_VALUE};

    interface Call {
        void run();
    }

    private static int wrong = 0;

    private Check() {
    }

    static void same(String what, Object due, Object got) {
        if (!due.equals(got)) {
            wrong++;
            System.out.println(what + ": due is " + due + ", answered was " + got);
        }
    }

    /** The call throws just this class, and nothing that can be seen is another afterwards. */
    static void refused(String what, Class<?> due, UndoShelf shelf, Call call) {
        String before = counts(shelf) + " " + table(shelf);
        same(what, due, thrownBy(call));
        same(what + " changed something", before, counts(shelf) + " " + table(shelf));
    }

    /** The call throws just this class; what it left is looked at elsewhere. */
    static void thrown(String what, Class<?> due, Call call) {
        same(what, due, thrownBy(call));
    }

    /** As refused, for shelves so full that reading all of them would go beyond the 512 calls. */
    static void refusedOnFull(String what, Class<?> due, UndoShelf shelf, Call call) {
        String before = counts(shelf);
        same(what, due, thrownBy(call));
        same(what + " changed something", before, counts(shelf));
    }

    static Class<?> thrownBy(Call call) {
        try {
            call.run();
            return Void.class;
        } catch (RuntimeException e) {
            return e.getClass();
        }
    }

    /** The rows as "1 2 3 | 4 - -", where - is none. Takes three calls for each row and one more. */
    static String table(UndoShelf shelf) {
        StringBuilder text = new StringBuilder();
        int rows = shelf.count(0);
        for (int row = 0; row < rows; row++) {
            text.append(row == 0 ? "" : " | ");
            for (int column = 0; column < 3; column++) {
                text.append(column == 0 ? "" : " ").append(valueOrDash(shelf, row, column));
            }
        }
        return text.toString();
    }

    static String counts(UndoShelf shelf) {
        StringBuilder text = new StringBuilder();
        for (int what = 0; what <= 4; what++) {
            text.append(what == 0 ? "" : " ").append(shelf.count(what));
        }
        return text.toString();
    }

    private static String valueOrDash(UndoShelf shelf, int row, int column) {
        try {
            return Integer.toString(shelf.value(row, column));
        } catch (NoSuchElementException e) {
            return "-";
        }
    }

    /** Rows 0 .. n - 1 with the keys i and 1000 + i, and i % 4 in column 2. */
    static UndoShelf shelfOf(int n) {
        UndoShelf shelf = new UndoShelf();
        for (int i = 0; i < n; i++) {
            same("insert of row " + i, i, shelf.insert(i, 1000 + i, i % 4, 7));
        }
        return shelf;
    }

    /** What table tells of shelfOf(n). */
    static String tableOf(int n) {
        StringBuilder text = new StringBuilder();
        for (int i = 0; i < n; i++) {
            text.append(i == 0 ? "" : " | ").append(i).append(' ').append(1000 + i).append(' ').append(i % 4);
        }
        return text.toString();
    }

    /** Sets column 2 of row 0 so many times. */
    static void setTimes(UndoShelf shelf, int n) {
        for (int i = 0; i < n; i++) {
            shelf.set(0, 2, i, false);
        }
    }

    /** A shelf with one row and the points 0 .. n - 1, behind each of which column 2 is set to 100 and its number. */
    static UndoShelf shelfWithPoints(int n) {
        UndoShelf shelf = shelfOf(1);
        for (int name = 0; name < n; name++) {
            shelf.mark(name);
            shelf.set(0, 2, 100 + name, false);
            same("points", name + 1, shelf.count(1));
        }
        return shelf;
    }

    /** A shelf with one row and one point, 0, since which n changes are kept. */
    static UndoShelf shelfWithChanges(int n) {
        UndoShelf shelf = shelfOf(1);
        shelf.mark(0);
        setTimes(shelf, n);
        same("changes kept", n, shelf.count(2));
        return shelf;
    }

    static void finish() {
        if (wrong != 0) {
            System.out.println(wrong + " answers are not as due");
            System.exit(1);
        }
    }
}
