import java.util.ArrayList;
import java.util.List;
import java.util.NoSuchElementException;

/** The document once more, in another way: each point keeps a copy of all rows, and nothing is undone step by step. */
final class Model {
    private static final class Point {
        final int name;
        final List<Integer[]> rows;
        final int changes;

        Point(int name, List<Integer[]> rows, int changes) {
            this.name = name;
            this.rows = rows;
            this.changes = changes;
        }
    }

    private List<Integer[]> rows = new ArrayList<>();
    private List<Point> points = new ArrayList<>();
    private int changes = 0;

    int insert(int a, int b, int c, int has) {
        bad(has < 0 || has > 7);
        Integer[] row = {a, b, c};
        for (int column = 0; column < 3; column++) {
            if ((has >> column) % 2 == 0) {
                row[column] = null;
            }
        }
        conflict(rows.size() == 120 || row[0] == null || isTaken(0, row[0], -1) || isTaken(1, row[1], -1));
        change(1);
        rows.add(row);
        return rows.size() - 1;
    }

    void set(int row, int column, int v, boolean none) {
        bad(column < 0 || column > 2);
        missing(row < 0 || row >= rows.size());
        Integer value = none ? null : Integer.valueOf(v);
        conflict(column == 0 && none);
        conflict(column < 2 && isTaken(column, value, row));
        change(1);
        rows.get(row)[column] = value;
    }

    void remove(int row) {
        missing(row < 0 || row >= rows.size());
        change(1);
        rows.remove(row);
    }

    int removeAll(int column, int v) {
        bad(column < 0 || column > 2);
        List<Integer[]> stay = new ArrayList<>();
        for (Integer[] row : rows) {
            if (!Integer.valueOf(v).equals(row[column])) {
                stay.add(row);
            }
        }
        int gone = rows.size() - stay.size();
        change(gone);
        rows = stay;
        return gone;
    }

    int find(int column, int v) {
        bad(column < 0 || column > 1);
        for (int row = 0; row < rows.size(); row++) {
            if (Integer.valueOf(v).equals(rows.get(row)[column])) {
                return row;
            }
        }
        return -1;
    }

    int value(int row, int column) {
        bad(column < 0 || column > 2);
        missing(row < 0 || row >= rows.size());
        missing(rows.get(row)[column] == null);
        return rows.get(row)[column];
    }

    void mark(int name) {
        conflict(points.size() == 20);
        points.add(new Point(name, copyOf(rows), changes));
    }

    void back(int name) {
        int at = latest(name);
        Point point = points.get(at);
        rows = copyOf(point.rows);
        changes = point.changes;
        points = new ArrayList<>(points.subList(0, at + 1));
    }

    void release(int name) {
        points = new ArrayList<>(points.subList(0, latest(name)));
        if (points.isEmpty()) {
            changes = 0;
        }
    }

    int count(int what) {
        int[] counts = {rows.size(), points.size(), changes, 0, 0};
        for (Integer[] row : rows) {
            counts[3] += row[1] == null ? 1 : 0;
            counts[4] += row[2] == null ? 1 : 0;
        }
        return what >= 0 && what <= 4 ? counts[what] : -1;
    }

    private boolean isTaken(int column, Integer value, int butRow) {
        for (int row = 0; row < rows.size(); row++) {
            if (row != butRow && value != null && value.equals(rows.get(row)[column])) {
                return true;
            }
        }
        return false;
    }

    private void change(int more) {
        if (!points.isEmpty()) {
            conflict(changes + more > 200);
            changes += more;
        }
    }

    private int latest(int name) {
        int at = -1;
        for (int i = 0; i < points.size(); i++) {
            at = points.get(i).name == name ? i : at;
        }
        missing(at < 0);
        return at;
    }

    private static List<Integer[]> copyOf(List<Integer[]> rows) {
        List<Integer[]> copy = new ArrayList<>();
        for (Integer[] row : rows) {
            copy.add(row.clone());
        }
        return copy;
    }

    private static void bad(boolean is) {
        if (is) {
            throw new IllegalArgumentException();
        }
    }

    private static void missing(boolean is) {
        if (is) {
            throw new NoSuchElementException();
        }
    }

    private static void conflict(boolean is) {
        if (is) {
            throw new IllegalStateException();
        }
    }
}
