import java.util.NoSuchElementException;

public final class UndoShelf {
    private static final int COLUMNS = 3;
    private static final int KEYS = 2;
    private static final int ALL_BITS = 7;

    private static final int MOST_ROWS = 120;
    private static final int MOST_POINTS = 20;
    private static final int MOST_CHANGES = 200;

    // A row lies in WIDTH ints on end (its values, then a bit for each that is not none),
    // so that one copy moves it, keeps it or brings it back whole.
    private static final int WIDTH = 4;
    private static final int BITS = 3;

    private static final int INSERTED = 0;
    private static final int CHANGED = 1;
    private static final int REMOVED = 2;

    private final int[] cells;
    private int rows;

    private final int[] pointNames;
    private final int[] changesAtPoint;
    private int points;

    private final int[] changeKinds;
    private final int[] changeRows;
    private final int[] cellsBefore;
    private int changes;

    public UndoShelf() {
        cells = new int[MOST_ROWS * WIDTH];
        rows = 0;
        pointNames = new int[MOST_POINTS];
        changesAtPoint = new int[MOST_POINTS];
        points = 0;
        changeKinds = new int[MOST_CHANGES];
        changeRows = new int[MOST_CHANGES];
        cellsBefore = new int[MOST_CHANGES * WIDTH];
        changes = 0;
    }

    public int insert(int a, int b, int c, int has) throws IllegalArgumentException, IllegalStateException {
        if ((has & ~ALL_BITS) != 0) {
            throw new IllegalArgumentException();
        }
        if (rows >= MOST_ROWS || !hasRoomFor(1) || !mayBeInserted(a, b, has)) {
            throw new IllegalStateException();
        }
        int row = rows;
        keepChange(INSERTED, row);
        int start = row * WIDTH;
        cells[start] = a;
        cells[start + 1] = b;
        cells[start + 2] = c;
        cells[start + BITS] = has;
        rows = row + 1;
        return row;
    }

    public void set(int row, int column, int v, boolean none)
            throws IllegalArgumentException, IllegalStateException, NoSuchElementException {
        if (!isColumn(column)) {
            throw new IllegalArgumentException();
        }
        if (!isRow(row)) {
            throw new NoSuchElementException();
        }
        if (!hasRoomFor(1) || !maySet(row, column, v, none)) {
            throw new IllegalStateException();
        }
        keepChange(CHANGED, row);
        int start = row * WIDTH;
        if (none) {
            cells[start + BITS] &= ~(1 << column);
        } else {
            cells[start + column] = v;
            cells[start + BITS] |= 1 << column;
        }
    }

    public void remove(int row) throws IllegalStateException, NoSuchElementException {
        if (!isRow(row)) {
            throw new NoSuchElementException();
        }
        if (!hasRoomFor(1)) {
            throw new IllegalStateException();
        }
        takeOut(row);
    }

    public int removeAll(int column, int v) throws IllegalArgumentException, IllegalStateException {
        if (!isColumn(column)) {
            throw new IllegalArgumentException();
        }
        int found = countRowsWith(column, v);
        if (!hasRoomFor(found)) {
            throw new IllegalStateException();
        }
        // From the end, so that the rows still to be looked at keep their numbers.
        for (int row = rows - 1; row >= 0; row--) {
            if (holds(row, column, v)) {
                takeOut(row);
            }
        }
        return found;
    }

    public int find(int column, int v) throws IllegalArgumentException {
        if (column < 0 || column >= KEYS) {
            throw new IllegalArgumentException();
        }
        return rowWithKey(column, v);
    }

    public int value(int row, int column) throws IllegalArgumentException, NoSuchElementException {
        if (!isColumn(column)) {
            throw new IllegalArgumentException();
        }
        if (!isRow(row) || isNone(row, column)) {
            throw new NoSuchElementException();
        }
        return cells[row * WIDTH + column];
    }

    public void mark(int name) throws IllegalStateException {
        if (points >= MOST_POINTS) {
            throw new IllegalStateException();
        }
        pointNames[points] = name;
        changesAtPoint[points] = changes;
        points++;
    }

    public void back(int name) throws NoSuchElementException {
        int point = latestPoint(name);
        if (point < 0) {
            throw new NoSuchElementException();
        }
        int stay = changesAtPoint[point];
        for (int change = changes - 1; change >= stay; change--) {
            undo(change);
        }
        changes = stay;
        points = point + 1;
    }

    public void release(int name) throws NoSuchElementException {
        int point = latestPoint(name);
        if (point < 0) {
            throw new NoSuchElementException();
        }
        points = point;
        // Older points still need every change; without points none can be taken back.
        if (points == 0) {
            changes = 0;
        }
    }

    public int count(int what) {
        switch (what) {
            case 0:
                return rows;
            case 1:
                return points;
            case 2:
                return changes;
            case 3:
                return countNone(1);
            case 4:
                return countNone(2);
            default:
                return -1;
        }
    }

    private static boolean isColumn(int column) {
        return column >= 0 && column < COLUMNS;
    }

    private boolean isRow(int row) {
        return row >= 0 && row < rows;
    }

    private boolean isNone(int row, int column) {
        return (cells[row * WIDTH + BITS] & (1 << column)) == 0;
    }

    private boolean holds(int row, int column, int v) {
        return !isNone(row, column) && cells[row * WIDTH + column] == v;
    }

    private int rowWithKey(int column, int v) {
        for (int row = 0; row < rows; row++) {
            if (holds(row, column, v)) {
                return row;
            }
        }
        return -1;
    }

    private int countRowsWith(int column, int v) {
        int found = 0;
        for (int row = 0; row < rows; row++) {
            if (holds(row, column, v)) {
                found++;
            }
        }
        return found;
    }

    private int countNone(int column) {
        int found = 0;
        for (int row = 0; row < rows; row++) {
            if (isNone(row, column)) {
                found++;
            }
        }
        return found;
    }

    private boolean mayBeInserted(int a, int b, int has) {
        if ((has & 1) == 0 || rowWithKey(0, a) >= 0) {
            return false;
        }
        return (has & 2) == 0 || rowWithKey(1, b) < 0;
    }

    private boolean maySet(int row, int column, int v, boolean none) {
        if (none) {
            return column != 0;
        }
        if (column >= KEYS) {
            return true;
        }
        // A row may be given the key that it has: no other row has it.
        int holder = rowWithKey(column, v);
        return holder < 0 || holder == row;
    }

    private boolean hasRoomFor(int more) {
        return points == 0 || changes + more <= MOST_CHANGES;
    }

    private void takeOut(int row) {
        keepChange(REMOVED, row);
        closeRow(row);
    }

    private void keepChange(int kind, int row) {
        if (points == 0) {
            return;
        }
        changeKinds[changes] = kind;
        changeRows[changes] = row;
        System.arraycopy(cells, row * WIDTH, cellsBefore, changes * WIDTH, WIDTH);
        changes++;
    }

    private void undo(int change) {
        int row = changeRows[change];
        if (changeKinds[change] == INSERTED) {
            closeRow(row);
            return;
        }
        if (changeKinds[change] == REMOVED) {
            openRow(row);
        }
        System.arraycopy(cellsBefore, change * WIDTH, cells, row * WIDTH, WIDTH);
    }

    private void closeRow(int row) {
        int behind = rows - row - 1;
        System.arraycopy(cells, (row + 1) * WIDTH, cells, row * WIDTH, behind * WIDTH);
        rows--;
    }

    private void openRow(int row) {
        int behind = rows - row;
        System.arraycopy(cells, row * WIDTH, cells, (row + 1) * WIDTH, behind * WIDTH);
        rows++;
    }

    private int latestPoint(int name) {
        for (int point = points - 1; point >= 0; point--) {
            if (pointNames[point] == name) {
                return point;
            }
        }
        return -1;
    }
}
