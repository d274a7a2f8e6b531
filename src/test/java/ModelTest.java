import java.util.Random;

/** Long mixed runs of calls, each answer compared with the model's. The seed is the run's number, so a run can be told again. */
public final class ModelTest {
    private static final int RUNS = 4000;
    private static final int CALLS = 512;

    // How often each kind of call is made, in parts of their sum; one line for each mood of a run:
    // insert, set, remove, removeAll, find, value, mark, back, release, count.
    private static final int[][] MOODS = {
        {10, 10, 5, 3, 10, 10, 4, 3, 2, 8},
        {40, 5, 1, 0, 4, 8, 1, 0, 0, 4},
        {20, 20, 10, 2, 4, 8, 1, 0, 0, 4},
        {8, 12, 6, 1, 4, 8, 8, 1, 1, 4},
        {30, 20, 4, 1, 6, 20, 2, 1, 1, 10},
    };

    private final Random random;
    private final int spread;
    private final UndoShelf shelf = new UndoShelf();
    private final Model model = new Model();

    private ModelTest(long seed, int spread) {
        this.random = new Random(seed);
        this.spread = spread;
    }

    private interface Answer {
        Object get();
    }

    public static void main(String[] args) {
        for (int run = 0; run < RUNS; run++) {
            int spread = run % 2 == 0 ? 12 : 300;
            new ModelTest(run, spread).go("run " + run, MOODS[run / 2 % MOODS.length]);
        }
        Check.finish();
    }

    private void go(String name, int[] mood) {
        for (int call = 0; call < CALLS; call++) {
            step(name + ", call " + call + ": ", kindIn(mood));
        }
    }

    private int kindIn(int[] mood) {
        int sum = 0;
        for (int part : mood) {
            sum += part;
        }
        int at = random.nextInt(sum);
        int kind = 0;
        while (at >= mood[kind]) {
            at -= mood[kind];
            kind++;
        }
        return kind;
    }

    private void step(String name, int kind) {
        int row = oneOutside(model.count(0));
        int column = oneOutside(3);
        int v = number();
        int w = number();
        int point = random.nextInt(6);
        boolean none = random.nextInt(3) == 0;
        switch (kind) {
            case 0:
                int has = random.nextInt(4) == 0 ? random.nextInt(10) - 1 : 1 | random.nextInt(8);
                int c = number();
                compare(name + "insert", () -> shelf.insert(v, w, c, has), () -> model.insert(v, w, c, has));
                break;
            case 1:
                compare(name + "set", () -> done(() -> shelf.set(row, column, v, none)),
                        () -> done(() -> model.set(row, column, v, none)));
                break;
            case 2:
                compare(name + "remove", () -> done(() -> shelf.remove(row)), () -> done(() -> model.remove(row)));
                break;
            case 3:
                compare(name + "removeAll", () -> shelf.removeAll(column, v), () -> model.removeAll(column, v));
                break;
            case 4:
                compare(name + "find", () -> shelf.find(column, v), () -> model.find(column, v));
                break;
            case 5:
                compare(name + "value", () -> shelf.value(row, column), () -> model.value(row, column));
                break;
            case 6:
                compare(name + "mark", () -> done(() -> shelf.mark(point)), () -> done(() -> model.mark(point)));
                break;
            case 7:
                compare(name + "back", () -> done(() -> shelf.back(point)), () -> done(() -> model.back(point)));
                break;
            case 8:
                compare(name + "release", () -> done(() -> shelf.release(point)), () -> done(() -> model.release(point)));
                break;
            default:
                int what = random.nextInt(7) - 1;
                compare(name + "count", () -> shelf.count(what), () -> model.count(what));
                break;
        }
    }

    private int number() {
        return random.nextInt(spread) - spread / 3;
    }

    private int oneOutside(int size) {
        return random.nextInt(12) == 0 ? (random.nextBoolean() ? -1 : size) : random.nextInt(Math.max(size, 1));
    }

    private static void compare(String what, Answer got, Answer due) {
        Check.same(what, answerOf(due), answerOf(got));
    }

    private static Object answerOf(Answer answer) {
        try {
            return answer.get();
        } catch (RuntimeException e) {
            return e.getClass();
        }
    }

    private static Object done(Check.Call call) {
        call.run();
        return "done";
    }
}
