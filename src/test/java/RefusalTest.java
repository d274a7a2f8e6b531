import java.util.ArrayList;
import java.util.List;

/**
 * Terms: "Bad, missing, CONFLICT in this order. A refused call changes nothing."
 * Each call that is to be refused is made on shelves of several states. Afterwards a shelf must answer all that
 * can be asked of it as one of the same making does on which the call was not made.
 */
public final class RefusalTest {
    private interface Call {
        void on(UndoShelf shelf);
    }

    private static final class Refusal {
        final String what;
        final Class<?> due;
        final Call call;

        Refusal(String what, Class<?> due, Call call) {
            this.what = what;
            this.due = due;
            this.call = call;
        }
    }

    private interface Maker {
        UndoShelf make();
    }

    private static final int LATER_LOOKS = 9;

    public static void main(String[] args) {
        inState("some of all", RefusalTest::someOfAll, new ArrayList<>());
        inState("full of rows", RefusalTest::fullOfRows, tooManyRows());
        inState("full of points", RefusalTest::fullOfPoints, tooManyPoints());
        inState("one change left", RefusalTest::oneChangeLeft, oneChangeTooMany());
        inState("full of changes", RefusalTest::fullOfChanges, tooManyChanges());
        Check.finish();
    }

    // In every state the rows 0 and 1 have the keys 0, 1000 and 1, 1001, row 2 has none in columns 1 and 2,
    // and there are points of the names 1 and 2, the older one with two rows fewer.

    private static UndoShelf start() {
        UndoShelf shelf = Check.shelfOf(2);
        shelf.insert(2, 0, 0, 1);
        shelf.insert(3, 1003, 7, 7);
        shelf.remove(3);
        shelf.mark(1);
        shelf.insert(3, 1003, 7, 7);
        shelf.insert(4, 1004, 7, 7);
        shelf.remove(3);
        shelf.insert(3, 1003, 8, 7);
        shelf.mark(2);
        return shelf;
    }

    private static UndoShelf someOfAll() {
        UndoShelf shelf = start();
        shelf.set(3, 2, 9, false);
        shelf.set(4, 1, 0, true);
        return shelf;
    }

    private static UndoShelf fullOfRows() {
        UndoShelf shelf = start();
        for (int row = 5; row < 120; row++) {
            shelf.insert(row, 1000 + row, row, 7);
        }
        Check.same("rows", 120, shelf.count(0));
        return shelf;
    }

    private static UndoShelf fullOfPoints() {
        UndoShelf shelf = start();
        for (int point = 2; point < 20; point++) {
            shelf.mark(100 + point);
            shelf.set(3, 2, point, false);
        }
        Check.same("points", 20, shelf.count(1));
        return shelf;
    }

    private static UndoShelf fullOfChanges() {
        return withChanges(200);
    }

    private static UndoShelf oneChangeLeft() {
        return withChanges(199);
    }

    private static UndoShelf withChanges(int n) {
        UndoShelf shelf = start();
        shelf.set(4, 2, n, false);
        for (int change = 6; change <= n; change++) {
            shelf.set(3, 2, change, false);
        }
        Check.same("changes", n, shelf.count(2));
        return shelf;
    }

    private static List<Refusal> bad() {
        List<Refusal> list = new ArrayList<>();
        int[] outside = {-1, 3, Integer.MIN_VALUE, Integer.MAX_VALUE};
        for (int column : outside) {
            String in = " in column " + column;
            list.add(new Refusal("set" + in, Check.BAD, x -> x.set(0, column, 500, false)));
            list.add(new Refusal("set of no row" + in, Check.BAD, x -> x.set(-1, column, 500, false)));
            list.add(new Refusal("set of a key there" + in, Check.BAD, x -> x.set(0, column, 1, false)));
            list.add(new Refusal("none" + in, Check.BAD, x -> x.set(0, column, 0, true)));
            list.add(new Refusal("none of no row" + in, Check.BAD, x -> x.set(120, column, 0, true)));
            list.add(new Refusal("removeAll" + in, Check.BAD, x -> x.removeAll(column, 0)));
            list.add(new Refusal("find" + in, Check.BAD, x -> x.find(column, 0)));
            list.add(new Refusal("value" + in, Check.BAD, x -> x.value(0, column)));
            list.add(new Refusal("value of no row" + in, Check.BAD, x -> x.value(-1, column)));
        }
        list.add(new Refusal("find in column 2", Check.BAD, x -> x.find(2, 0)));
        int[] has = {8, 15, -1, Integer.MIN_VALUE};
        for (int bits : has) {
            list.add(new Refusal("insert, has " + bits, Check.BAD, x -> x.insert(500, 500, 500, bits)));
            list.add(new Refusal("insert of keys there, has " + bits, Check.BAD, x -> x.insert(0, 1001, 0, bits)));
        }
        return list;
    }

    private static List<Refusal> missing() {
        List<Refusal> list = new ArrayList<>();
        int[] outside = {-1, 120, Integer.MIN_VALUE, Integer.MAX_VALUE};
        for (int row : outside) {
            String at = " of row " + row;
            list.add(new Refusal("set" + at, Check.MISSING, x -> x.set(row, 2, 500, false)));
            list.add(new Refusal("set to a key there" + at, Check.MISSING, x -> x.set(row, 1, 1001, false)));
            list.add(new Refusal("none in column 0" + at, Check.MISSING, x -> x.set(row, 0, 0, true)));
            list.add(new Refusal("remove" + at, Check.MISSING, x -> x.remove(row)));
            list.add(new Refusal("value" + at, Check.MISSING, x -> x.value(row, 0)));
        }
        list.add(new Refusal("set just behind the last", Check.MISSING, x -> x.set(x.count(0), 2, 500, false)));
        list.add(new Refusal("remove just behind the last", Check.MISSING, x -> x.remove(x.count(0))));
        list.add(new Refusal("value just behind the last", Check.MISSING, x -> x.value(x.count(0), 0)));
        list.add(new Refusal("value, none in column 1", Check.MISSING, x -> x.value(2, 1)));
        list.add(new Refusal("value, none in column 2", Check.MISSING, x -> x.value(2, 2)));
        list.add(new Refusal("back", Check.MISSING, x -> x.back(99)));
        list.add(new Refusal("release", Check.MISSING, x -> x.release(99)));
        return list;
    }

    private static List<Refusal> conflict() {
        List<Refusal> list = new ArrayList<>();
        list.add(new Refusal("insert of none in column 0", Check.CONFLICT, x -> x.insert(500, 500, 500, 6)));
        list.add(new Refusal("insert of nones only", Check.CONFLICT, x -> x.insert(500, 500, 500, 0)));
        list.add(new Refusal("insert of a key 0 there", Check.CONFLICT, x -> x.insert(1, 500, 500, 7)));
        list.add(new Refusal("insert of a key 1 there", Check.CONFLICT, x -> x.insert(500, 1001, 500, 7)));
        list.add(new Refusal("none in column 0", Check.CONFLICT, x -> x.set(0, 0, 0, true)));
        list.add(new Refusal("set to a key 0 there", Check.CONFLICT, x -> x.set(0, 0, 1, false)));
        list.add(new Refusal("set to a key 1 there", Check.CONFLICT, x -> x.set(2, 1, 1001, false)));
        return list;
    }

    private static List<Refusal> tooManyRows() {
        List<Refusal> list = new ArrayList<>();
        list.add(new Refusal("the 121st row", Check.CONFLICT, x -> x.insert(500, 500, 500, 7)));
        list.add(new Refusal("the 121st row, of nones", Check.CONFLICT, x -> x.insert(500, 500, 500, 1)));
        return list;
    }

    private static List<Refusal> tooManyPoints() {
        List<Refusal> list = new ArrayList<>();
        list.add(new Refusal("the 21st point", Check.CONFLICT, x -> x.mark(99)));
        list.add(new Refusal("the 21st point, of a name there", Check.CONFLICT, x -> x.mark(1)));
        return list;
    }

    private static List<Refusal> tooManyChanges() {
        List<Refusal> list = new ArrayList<>();
        list.add(new Refusal("201st, insert", Check.CONFLICT, x -> x.insert(500, 500, 500, 7)));
        list.add(new Refusal("201st, set", Check.CONFLICT, x -> x.set(0, 2, 500, false)));
        list.add(new Refusal("201st, none", Check.CONFLICT, x -> x.set(0, 1, 500, true)));
        list.add(new Refusal("201st, remove", Check.CONFLICT, x -> x.remove(0)));
        list.add(new Refusal("201st, removeAll", Check.CONFLICT, x -> x.removeAll(0, 1)));
        return list;
    }

    private static List<Refusal> oneChangeTooMany() {
        List<Refusal> list = new ArrayList<>();
        list.add(new Refusal("200th and 201st, removeAll", Check.CONFLICT, x -> x.removeAll(2, 199)));
        return list;
    }

    private static void inState(String state, Maker maker, List<Refusal> more) {
        List<Refusal> all = bad();
        all.addAll(missing());
        all.addAll(conflict());
        all.addAll(more);
        for (int look = 0; look < LATER_LOOKS; look++) {
            String untouched = laterLook(look, maker.make());
            for (Refusal refusal : all) {
                String what = state + ", " + refusal.what;
                UndoShelf shelf = maker.make();
                Check.thrown(what, refusal.due, () -> refusal.call.on(shelf));
                Check.same(what + " changed something", untouched, laterLook(look, shelf));
            }
        }
    }

    /** One of several ways to go on, each on a shelf of its own: together they'd go beyond the 512 calls. */
    private static String laterLook(int look, UndoShelf shelf) {
        Class<?> thrown = Check.thrownBy(() -> goOn(look, shelf));
        return thrown + ": " + Check.counts(shelf) + ": " + Check.table(shelf);
    }

    private static void goOn(int look, UndoShelf shelf) {
        switch (look) {
            case 0:
                break;
            case 1:
                shelf.back(2);
                break;
            case 2:
                shelf.back(1);
                break;
            case 3:
                shelf.release(2);
                shelf.back(1);
                break;
            case 4:
                shelf.release(1);
                break;
            case 5:
                shelf.insert(700, 700, 700, 7);
                break;
            case 6:
                shelf.back(119);
                break;
            case 7:
                shelf.mark(3);
                shelf.back(3);
                break;
            default:
                shelf.remove(0);
                shelf.back(2);
                break;
        }
    }
}
