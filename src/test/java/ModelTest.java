import java.util.Random;

/** Random runs with fixed seeds: the class answers each call, wrong ones too, as the model does. */
public final class ModelTest {
    private static final int RUNS = 240;
    private static final int CALLS = 500;
    private static final int NEVER = 1000;

    private interface Call<T> {
        Object of(T on);
    }

    private final Random random;
    private final int run;
    private final StarlingSquare square = new StarlingSquare();
    private final Model model = new Model();
    private int w = 10;
    private int h = 8;
    private int resetOneIn;

    private ModelTest(int run) {
        this.run = run;
        this.random = new Random(7919L * run + 3);
        this.resetOneIn = run % 3 == 0 ? NEVER : 150;
    }

    public static void main(String[] args) {
        for (int run = 0; run < RUNS; run++) {
            new ModelTest(run).walk();
        }
        Check.end();
    }

    private static Object answer(java.util.function.Supplier<Object> call) {
        try {
            return call.get();
        } catch (RuntimeException e) {
            return "throws " + e.getClass().getName();
        }
    }

    private void both(String name, Call<StarlingSquare> ofSquare, Call<Model> ofModel) {
        Object want = answer(() -> ofModel.of(model));
        Object got = answer(() -> ofSquare.of(square));
        Check.due("run " + run + ": " + name + " is " + want + ", and " + got, 1, want.equals(got) ? 1 : 0);
    }

    private void walk() {
        if (run % 4 != 1) {
            makeNew();
        }
        settle();
        for (int c = 0; c < CALLS - 80; c++) {
            if (random.nextInt(resetOneIn) == 0) {
                makeNew();
                settle();
            }
            oneCall(random.nextInt(30));
            if (c % 40 == 0) {
                both("digest", s -> s.digest(), m -> m.digest());
            }
        }
        both("digest", s -> s.digest(), m -> m.digest());
    }

    private void makeNew() {
        int nw = run % 2 == 0 ? 2 + random.nextInt(6) : 2 + random.nextInt(13);
        int nh = run % 2 == 0 ? 2 + random.nextInt(6) : 2 + random.nextInt(13);
        both("reset", s -> s.reset(nw, nh), m -> m.reset(nw, nh));
        w = nw;
        h = nh;
    }

    /** Walls, marks and walkers to begin with. */
    private void settle() {
        for (int i = 0; i < 4; i++) {
            wall(true);
        }
        for (int i = 0; i < 5; i++) {
            mark();
        }
        int crowd = 3 + random.nextInt(22);
        for (int i = 0; i < crowd; i++) {
            walker();
        }
    }

    /** Mostly a right one, now and then one just beside what is right, or far off. */
    private int from(int least, int most) {
        int kind = random.nextInt(60);
        if (kind == 0) {
            return least - 1;
        }
        if (kind == 1) {
            return most + 1;
        }
        if (kind == 2) {
            return random.nextInt();
        }
        return least + random.nextInt(Math.max(1, most - least + 1));
    }

    private int x() {
        return from(0, w - 1);
    }

    private int y() {
        return from(0, h - 1);
    }

    private int goal() {
        return from(0, run % 5 == 0 ? 0 : 3);
    }

    private int who() {
        return from(0, square.many(0) - 1);
    }

    private int few(int most) {
        return random.nextInt(3) == 0 ? from(1, most) : from(1, 4);
    }

    private void oneCall(int kind) {
        switch (kind) {
            case 0: wall(random.nextBoolean()); break;
            case 1: mark(); break;
            case 2: set(); break;
            case 3: case 4: walker(); break;
            case 5: case 6: turnTo(); break;
            case 7: case 8: case 9: case 10: case 11: tick(); break;
            case 12: case 13: aheadOfWalker(); break;
            case 14: case 15: aheadOfAll(); break;
            case 16: case 17: aheadOfField(); break;
            case 18: both("meanSteps", s -> s.meanSteps(), m -> m.meanSteps()); break;
            case 19: both("clock", s -> s.clock(), m -> m.clock()); break;
            case 20: case 21: ofField(); break;
            case 22: case 23: wayOrJam(); break;
            case 24: wrongReset(); break;
            default: ofWalker(); break;
        }
    }

    private void wall(boolean isWall) {
        int x = x();
        int y = y();
        int toX = random.nextBoolean() ? x : x();
        int toY = toX != x ? y : y();
        both("wall", s -> s.wall(x, y, toX, toY, isWall), m -> m.wall(x, y, toX, toY, isWall));
    }

    private void mark() {
        int g = goal();
        int x = x();
        int y = y();
        both("mark", s -> s.mark(g, x, y), m -> m.mark(g, x, y));
    }

    private void set() {
        int draw = from(0, 9);
        int jam = random.nextBoolean() ? from(1, 3) : from(1, 20);
        both("set", s -> s.set(draw, jam), m -> m.set(draw, jam));
    }

    private void walker() {
        int g = goal();
        int pace = random.nextBoolean() ? 1 : from(1, 3);
        int mood = random.nextInt(3) == 0 ? 0 : from(0, 9);
        int x = x();
        int y = y();
        both("walker", s -> s.walker(g, pace, mood, x, y), m -> m.walker(g, pace, mood, x, y));
    }

    private void turnTo() {
        int i = who();
        int g = goal();
        int mood = from(0, 9);
        both("turnTo", s -> s.turnTo(i, g, mood), m -> m.turnTo(i, g, mood));
    }

    private void tick() {
        int ticks = random.nextInt(8) == 0 ? from(1, 20) : from(1, 2);
        both("tick", s -> s.tick(ticks), m -> m.tick(ticks));
    }

    private void aheadOfWalker() {
        int i = who();
        int ticks = few(60);
        both("outIn", s -> s.outIn(i, ticks), m -> m.outIn(i, ticks));
    }

    private void aheadOfAll() {
        int ticks = few(60);
        int draw = from(0, 9);
        both("outWith", s -> s.outWith(ticks, draw), m -> m.outWith(ticks, draw));
        both("jamIn", s -> s.jamIn(ticks), m -> m.jamIn(ticks));
    }

    private void aheadOfField() {
        int g = goal();
        int x = x();
        int y = y();
        int ticks = few(60);
        both("outBy", s -> s.outBy(x, y, ticks), m -> m.outBy(x, y, ticks));
        both("farWith", s -> s.farWith(g, x, y), m -> m.farWith(g, x, y));
    }

    private void ofField() {
        int g = goal();
        int x = x();
        int y = y();
        int what = from(0, 3);
        both("field", s -> s.field(x, y, what), m -> m.field(x, y, what));
        both("far", s -> s.far(g, x, y), m -> m.far(g, x, y));
        both("farthest", s -> s.farthest(g), m -> m.farthest(g));
    }

    private void wayOrJam() {
        int i = who();
        int k = from(0, 12);
        both("way", s -> s.way(i, k), m -> m.way(i, k));
        both("jam", s -> s.jam(i), m -> m.jam(i));
    }

    private void ofWalker() {
        int i = who();
        int what = from(0, 8);
        int side = from(0, 4);
        both("ofWalker", s -> s.ofWalker(i, what), m -> m.ofWalker(i, what));
        both("many", s -> s.many(what), m -> m.many(what));
        both("cost", s -> s.cost(i, side), m -> m.cost(i, side));
        both("wants", s -> s.wants(i), m -> m.wants(i));
    }

    private void wrongReset() {
        int low = from(0, 1);
        if (low >= 0 && low <= 1) {
            both("reset", s -> s.reset(low, 5), m -> m.reset(low, 5));
            both("reset", s -> s.reset(5, 15 + low), m -> m.reset(5, 15 + low));
        }
    }
}
