/**
 * Each argument of each call: the last values that are allowed, the first ones that are not, what a
 * refused call leaves as it was, and which exception comes first; and which calls change nothing.
 */
public final class RefusedTest {
    private static final int W = 6;
    private static final int H = 5;
    private static final Class<IndexOutOfBoundsException> INDEX = IndexOutOfBoundsException.class;
    private static final Class<IllegalArgumentException> ARGUMENT = IllegalArgumentException.class;
    private static final Class<IllegalStateException> STATE = IllegalStateException.class;

    // Walker 0 is OUT, 1 is on its way at (4, 4), 2 is in a JAM at (0, 0), 3 is drawn by 1, at (3, 4).
    private static final Refusal BUSY = new Refusal(RefusedTest::busy);
    // 24 walkers, of whom 0 is OUT.
    private static final Refusal FULL = new Refusal(RefusedTest::full);

    private RefusedTest() {
    }

    public static void main(String[] args) {
        resetTakes2To14();
        wallTakesFields();
        wallTakesNoWalkers();
        markTakesGoalsAndFields();
        markTakesNoWalkerOfThatGoal();
        setTakesDrawAndJam();
        fieldTakes0To3();
        farAndFarthestTakeGoals();
        walkerTakesItsArguments();
        walkerNeedsAnOpenField();
        the25thWalker();
        turnToTakesItsArguments();
        turnToNeedsAWalkerOnItsWay();
        tickTakes1To20();
        manyTakes0To8();
        ofWalkerTakes0To8();
        costTakesSides();
        wantsTakesWalkers();
        wayTakesAnyNumberOfSteps();
        jamTakesWalkers();
        outInTakes1To60();
        outWithTakes1To60();
        outByTakesFreeFields();
        jamInTakes1To60();
        farWithTakesGoalsAndFields();
        numbersThatWrapAround();
        noWalkersAtAll();
        askingChangesNothing();
        whatWouldBeChangesNothing();
        Check.end();
    }

    private static StarlingSquare busy() {
        StarlingSquare s = new StarlingSquare();
        s.reset(W, H);
        s.set(7, 2);
        s.wall(2, 2, 3, 2, true);
        s.mark(0, 5, 0);
        s.mark(1, 0, 4);
        s.mark(2, 2, 2);
        s.walker(0, 1, 3, 4, 0);
        s.walker(1, 2, 9, 5, 4);
        s.walker(3, 1, 0, 0, 0);
        s.walker(0, 3, 5, 3, 4);
        s.tick(2);
        return s;
    }

    private static StarlingSquare full() {
        StarlingSquare s = new StarlingSquare();
        s.reset(W, H);
        s.mark(0, 0, 4);
        s.walker(0, 1, 0, 1, 4);
        for (int i = 1; i < 24; i++) {
            s.walker(i % 4, 1 + i % 3, i % 10, i % W, i / W);
        }
        s.tick(1);
        return s;
    }

    private static int yes(boolean isSo) {
        return isSo ? 1 : 0;
    }

    private static void resetTakes2To14() {
        Check.about("2: if w or h is not 2 to 14");
        BUSY.range("reset w", 2, 14, ARGUMENT, (s, v) -> s.reset(v, 5));
        BUSY.range("reset h", 2, 14, ARGUMENT, (s, v) -> s.reset(5, v));
        BUSY.argument("reset(1, 1)", s -> s.reset(1, 1));
        BUSY.argument("reset(15, 1)", s -> s.reset(15, 1));
        BUSY.argument("reset(0, 0)", s -> s.reset(0, 0));
        BUSY.argument("reset(-6, -5)", s -> s.reset(-6, -5));
        BUSY.argument("reset(65536, 65536)", s -> s.reset(65536, 65536));
    }

    private static void wallTakesFields() {
        Check.about("3: if there is no such FIELD");
        for (boolean isWall : new boolean[] {true, false}) {
            BUSY.range("wall x", 0, W - 1, INDEX, (s, v) -> s.wall(v, 3, 1, 3, isWall));
            BUSY.range("wall toX", 0, W - 1, INDEX, (s, v) -> s.wall(1, 3, v, 3, isWall));
            BUSY.range("wall y", 0, H - 1, INDEX, (s, v) -> s.wall(1, v, 1, 3, isWall));
            BUSY.range("wall toY", 0, H - 1, INDEX, (s, v) -> s.wall(1, 3, 1, v, isWall));
        }
    }

    private static void wallTakesNoWalkers() {
        Check.about("3: if isWall, and a walker is ON one of them");
        BUSY.state("on that field alone", s -> s.wall(0, 0, 0, 0, true));
        BUSY.state("in the first corner", s -> s.wall(0, 0, 1, 0, true));
        BUSY.state("in the last corner", s -> s.wall(1, 0, 0, 0, true));
        BUSY.state("in the midst", s -> s.wall(0, 2, 1, 0, true));
        BUSY.state("the whole square", s -> s.wall(0, 0, W - 1, H - 1, true));
        BUSY.index("no such field comes first", s -> s.wall(0, 0, 0, H, true));
        BUSY.index("as the other one, too", s -> s.wall(-1, 0, 0, 0, true));
        BUSY.accepted("beside walkers", s -> s.wall(1, 0, 1, 1, true));
        BUSY.accepted("free under walkers", s -> s.wall(0, 0, W - 1, H - 1, false));
        BUSY.accepted("where one came to be out", s -> s.wall(5, 0, 4, 0, true));
        BUSY.accepted("on walls", s -> s.wall(2, 2, 3, 2, true));
    }

    private static void markTakesGoalsAndFields() {
        Check.about("4: if there is no such GOAL, or FIELD");
        BUSY.range("mark goal", 0, 3, INDEX, (s, v) -> s.mark(v, 1, 1));
        BUSY.range("mark x", 0, W - 1, INDEX, (s, v) -> s.mark(0, v, 3));
        BUSY.range("mark y", 0, H - 1, INDEX, (s, v) -> s.mark(0, 1, v));
    }

    private static void markTakesNoWalkerOfThatGoal() {
        Check.about("4: if a walker with that GOAL is ON it");
        BUSY.state("under walker 2", s -> s.mark(3, 0, 0));
        BUSY.state("under walker 1", s -> s.mark(1, 4, 4));
        BUSY.index("no such goal comes first", s -> s.mark(4, 0, 0));
        for (int goal = 0; goal < 3; goal++) {
            int g = goal;
            BUSY.accepted("under a walker with another goal", s -> s.mark(g, 0, 0));
        }
        BUSY.accepted("where one came to be out", s -> s.mark(0, 5, 0));
        BUSY.accepted("where one came from", s -> s.mark(0, 4, 0));
        BUSY.accepted("a wall", s -> s.mark(3, 3, 2));
    }

    private static void setTakesDrawAndJam() {
        Check.about("5: if draw is not 0 to 9, or jam is not 1 to 20");
        BUSY.range("set draw", 0, 9, ARGUMENT, (s, v) -> s.set(v, 5));
        BUSY.range("set jam", 1, 20, ARGUMENT, (s, v) -> s.set(5, v));
        BUSY.argument("both", s -> s.set(10, 0));
    }

    private static void fieldTakes0To3() {
        Check.about("6: field");
        BUSY.range("field x", 0, W - 1, INDEX, (s, v) -> s.field(v, 2, 0));
        BUSY.range("field y", 0, H - 1, INDEX, (s, v) -> s.field(2, v, 1));
        BUSY.range("field what", 0, 3, ARGUMENT, (s, v) -> s.field(5, 4, v));
        BUSY.range("field what of a wall", 0, 3, ARGUMENT, (s, v) -> s.field(2, 2, v));
        BUSY.index("no such field comes first, x", s -> s.field(W, 0, 4));
        BUSY.index("no such field comes first, y", s -> s.field(0, H, -1));
    }

    private static void farAndFarthestTakeGoals() {
        Check.about("7: if there is no such GOAL, or FIELD");
        BUSY.range("far goal", 0, 3, INDEX, (s, v) -> s.far(v, 1, 1));
        BUSY.range("far x", 0, W - 1, INDEX, (s, v) -> s.far(0, v, 2));
        BUSY.range("far y", 0, H - 1, INDEX, (s, v) -> s.far(0, 2, v));
        Check.about("8: if there is no such GOAL");
        BUSY.range("farthest goal", 0, 3, INDEX, (s, v) -> s.farthest(v));
    }

    private static void walkerTakesItsArguments() {
        Check.about("9: walker");
        BUSY.range("goal", 0, 3, INDEX, (s, v) -> s.walker(v, 1, 0, 1, 1));
        BUSY.range("x", 0, W - 1, INDEX, (s, v) -> s.walker(0, 1, 0, v, 3));
        BUSY.range("y", 0, H - 1, INDEX, (s, v) -> s.walker(0, 1, 0, 1, v));
        BUSY.range("pace", 1, 3, ARGUMENT, (s, v) -> s.walker(0, v, 0, 1, 1));
        BUSY.range("mood", 0, 9, ARGUMENT, (s, v) -> s.walker(0, 1, v, 1, 1));
        BUSY.index("no such goal, ahead of pace", s -> s.walker(4, 0, 0, 1, 1));
        BUSY.index("no such field, ahead of mood", s -> s.walker(0, 1, 10, W, 1));
        BUSY.index("no such goal, ahead of the wall", s -> s.walker(-1, 1, 0, 2, 2));
        BUSY.argument("pace, ahead of the wall", s -> s.walker(0, 0, 0, 2, 2));
        BUSY.argument("mood, ahead of the goal's field", s -> s.walker(0, 1, -1, 5, 0));
        BUSY.argument("mood, ahead of the walker", s -> s.walker(0, 1, 10, 0, 0));
    }

    private static void walkerNeedsAnOpenField() {
        Check.about("9: the FIELD is a WALL, or MARKED for that GOAL, or a walker is ON it");
        BUSY.state("a wall", s -> s.walker(0, 1, 0, 2, 2));
        BUSY.state("a wall, marked for that goal", s -> s.walker(2, 1, 0, 2, 2));
        BUSY.state("marked for that goal", s -> s.walker(0, 1, 0, 5, 0));
        BUSY.state("a walker with that goal", s -> s.walker(3, 1, 0, 0, 0));
        BUSY.state("a walker with another goal", s -> s.walker(2, 1, 0, 0, 0));
        BUSY.accepted("marked for another goal", s -> s.walker(1, 1, 0, 5, 0));
        BUSY.accepted("where one came from", s -> s.walker(0, 1, 0, 4, 0));
        BUSY.accepted("not marked any more", s -> s.mark(0, 5, 0) + s.walker(0, 1, 0, 5, 0));
        BUSY.accepted("free again", s -> yes(s.wall(2, 2, 2, 2, false) == 1) + s.walker(0, 1, 0, 2, 2));
    }

    private static void the25thWalker() {
        Check.about("9: if there were 24");
        StarlingSquare s = full();
        Check.due("24 came", 24, s.many(0));
        Check.due("of whom one is out", 1, s.many(1));
        FULL.state("the 25th on a free field", t -> t.walker(1, 1, 0, 5, 4));
        FULL.state("the 25th on a walker", t -> t.walker(1, 1, 0, 1, 0));
        FULL.index("no such goal comes first", t -> t.walker(4, 1, 0, 5, 4));
        FULL.index("no such field comes first", t -> t.walker(1, 1, 0, 5, 5));
        FULL.argument("pace comes first", t -> t.walker(1, 4, 0, 5, 4));
        FULL.argument("mood comes first", t -> t.walker(1, 1, 10, 5, 4));
        FULL.accepted("the first one behind reset", t -> t.reset(2, 2) + t.walker(1, 1, 0, 1, 1));
    }

    private static void turnToTakesItsArguments() {
        Check.about("10: turnTo");
        BUSY.range("walker", 1, 3, INDEX, (s, v) -> s.turnTo(v == 0 ? -1 : v, 2, 0));
        BUSY.range("goal", 0, 3, INDEX, (s, v) -> s.turnTo(2, v, 0));
        BUSY.range("mood", 0, 9, ARGUMENT, (s, v) -> s.turnTo(2, 0, v));
        BUSY.index("walker 24", s -> s.turnTo(24, 0, 0));
        FULL.index("walker 24, if there are 24", s -> s.turnTo(24, 0, 0));
        FULL.accepted("walker 23, if there are 24", s -> s.turnTo(23, 0, 0));
        BUSY.index("no such walker, ahead of mood", s -> s.turnTo(4, 0, 10));
        BUSY.index("no such goal, ahead of mood", s -> s.turnTo(2, 4, -1));
        BUSY.index("no such goal, though it is out", s -> s.turnTo(0, 4, 0));
        BUSY.argument("mood, though it is out", s -> s.turnTo(0, 0, 10));
    }

    private static void turnToNeedsAWalkerOnItsWay() {
        Check.about("10: if it is OUT, or ON a FIELD that is MARKED for that GOAL");
        for (int goal = 0; goal < 4; goal++) {
            int g = goal;
            BUSY.state("it is out, to goal " + g, s -> s.turnTo(0, g, 3));
        }
        Refusal marked = new Refusal(() -> {
            StarlingSquare s = busy();
            s.mark(1, 0, 0);
            return s;
        });
        marked.state("on that goal", s -> s.turnTo(2, 1, 5));
        marked.argument("mood comes first", s -> s.turnTo(2, 1, 10));
        marked.accepted("to another goal", s -> s.turnTo(2, 0, 5));
        marked.accepted("to its own goal", s -> s.turnTo(2, 3, 5));
        marked.accepted("not marked any more", s -> s.mark(1, 0, 0) + s.turnTo(2, 1, 5));
    }

    private static void tickTakes1To20() {
        Check.about("11: if ticks is not 1 to 20");
        BUSY.range("tick", 1, 20, ARGUMENT, (s, v) -> s.tick(v));
        FULL.range("tick", 1, 20, ARGUMENT, (s, v) -> s.tick(v));
    }

    private static void manyTakes0To8() {
        Check.about("13: if what is not 0 to 8");
        BUSY.range("many", 0, 8, ARGUMENT, (s, v) -> s.many(v));
    }

    private static void ofWalkerTakes0To8() {
        Check.about("14: ofWalker");
        BUSY.range("walker", 0, 3, INDEX, (s, v) -> s.ofWalker(v, 0));
        FULL.range("walker of 24", 0, 23, INDEX, (s, v) -> s.ofWalker(v, 8));
        BUSY.range("what", 0, 8, ARGUMENT, (s, v) -> s.ofWalker(2, v));
        BUSY.range("what of one that is out", 0, 8, ARGUMENT, (s, v) -> s.ofWalker(0, v));
        BUSY.index("no such walker comes first", s -> s.ofWalker(4, 9));
        BUSY.index("walker -1 comes first", s -> s.ofWalker(-1, -1));
    }

    private static void costTakesSides() {
        Check.about("15: cost");
        BUSY.range("walker", 1, 3, INDEX, (s, v) -> s.cost(v, 4));
        FULL.range("walker of 24", 1, 23, INDEX, (s, v) -> s.cost(v, 0));
        BUSY.range("side", 0, 4, ARGUMENT, (s, v) -> s.cost(2, v));
        BUSY.index("it is out", s -> s.cost(0, 4));
        BUSY.index("out comes first", s -> s.cost(0, 5));
        BUSY.index("no such walker comes first", s -> s.cost(4, -1));
    }

    private static void wantsTakesWalkers() {
        Check.about("16: if there is no such walker, or it is OUT");
        BUSY.range("walker", 1, 3, INDEX, (s, v) -> s.wants(v));
        FULL.range("walker of 24", 1, 23, INDEX, (s, v) -> s.wants(v));
        BUSY.index("it is out", s -> s.wants(0));
    }

    private static void wayTakesAnyNumberOfSteps() {
        Check.about("17: way");
        BUSY.range("walker", 1, 3, INDEX, (s, v) -> s.way(v, 0));
        FULL.range("walker of 24", 1, 23, INDEX, (s, v) -> s.way(v, 1));
        BUSY.accepted("k 0", s -> s.way(1, 0));
        BUSY.accepted("k 2147483647", s -> s.way(1, Integer.MAX_VALUE));
        BUSY.argument("k -1", s -> s.way(1, -1));
        BUSY.argument("k -2147483648", s -> s.way(1, Integer.MIN_VALUE));
        BUSY.argument("k -1, without a way", s -> s.way(2, -1));
        BUSY.index("it is out", s -> s.way(0, 0));
        BUSY.index("out comes first", s -> s.way(0, -1));
        BUSY.index("no such walker comes first", s -> s.way(4, -1));
    }

    private static void jamTakesWalkers() {
        Check.about("18: if there is no such walker");
        BUSY.range("walker", 0, 3, INDEX, (s, v) -> s.jam(v));
        FULL.range("walker of 24", 0, 23, INDEX, (s, v) -> s.jam(v));
    }

    private static void outInTakes1To60() {
        Check.about("20: outIn");
        BUSY.range("walker", 0, 3, INDEX, (s, v) -> s.outIn(v, 5));
        FULL.range("walker of 24", 0, 23, INDEX, (s, v) -> s.outIn(v, 5));
        BUSY.range("ticks", 1, 60, ARGUMENT, (s, v) -> s.outIn(1, v));
        BUSY.range("ticks of one that is out", 1, 60, ARGUMENT, (s, v) -> s.outIn(0, v));
        BUSY.index("no such walker comes first", s -> s.outIn(4, 0));
        BUSY.index("walker -1 comes first", s -> s.outIn(-1, 61));
    }

    private static void outWithTakes1To60() {
        Check.about("21: if ticks is not 1 to 60, or draw is not 0 to 9");
        BUSY.range("ticks", 1, 60, ARGUMENT, (s, v) -> s.outWith(v, 5));
        BUSY.range("draw", 0, 9, ARGUMENT, (s, v) -> s.outWith(5, v));
        BUSY.argument("both", s -> s.outWith(61, 10));
    }

    private static void outByTakesFreeFields() {
        Check.about("22: outBy");
        BUSY.range("x", 0, W - 1, INDEX, (s, v) -> s.outBy(v, 3, 5));
        BUSY.range("y", 0, H - 1, INDEX, (s, v) -> s.outBy(1, v, 5));
        BUSY.range("ticks", 1, 60, ARGUMENT, (s, v) -> s.outBy(1, 1, v));
        BUSY.range("ticks of a wall", 1, 60, ARGUMENT, (s, v) -> s.outBy(2, 2, v));
        BUSY.state("on a walker", s -> s.outBy(0, 0, 5));
        BUSY.state("on another walker", s -> s.outBy(4, 4, 60));
        BUSY.index("no such field, ahead of ticks", s -> s.outBy(W, 0, 0));
        BUSY.argument("ticks 0, ahead of the walker", s -> s.outBy(0, 0, 0));
        BUSY.argument("ticks 61, ahead of the walker", s -> s.outBy(0, 0, 61));
        BUSY.accepted("where one came to be out", s -> s.outBy(5, 0, 60));
    }

    private static void jamInTakes1To60() {
        Check.about("23: if ticks is not 1 to 60");
        BUSY.range("ticks, with a jam", 1, 60, ARGUMENT, (s, v) -> s.jamIn(v));
        FULL.range("ticks, without a jam", 1, 60, ARGUMENT, (s, v) -> s.jamIn(v));
    }

    private static void farWithTakesGoalsAndFields() {
        Check.about("24: if there is no such GOAL, or FIELD");
        BUSY.range("goal", 0, 3, INDEX, (s, v) -> s.farWith(v, 1, 1));
        BUSY.range("x", 0, W - 1, INDEX, (s, v) -> s.farWith(0, v, 0));
        BUSY.range("y", 0, H - 1, INDEX, (s, v) -> s.farWith(0, 0, v));
        BUSY.accepted("on a walker", s -> s.farWith(3, 0, 0));
        BUSY.accepted("a wall", s -> s.farWith(2, 2, 2));
    }

    /** Wrong ones whose NUMBER, or whose bit, would be a right one if nobody looked at them before. */
    private static void numbersThatWrapAround() {
        Check.about("There is no such FIELD, GOAL or walker");
        int[][] fields = {{W, 0}, {-1, 1}, {W, 3}, {-W, 2}, {2 * W, -1}, {0, 715827883}, {2, -715827882}};
        for (int[] f : fields) {
            int x = f[0];
            int y = f[1];
            String at = " at " + x + ", " + y;
            BUSY.index("wall" + at, s -> s.wall(x, y, 1, 3, false));
            BUSY.index("wall to" + at, s -> s.wall(1, 3, x, y, true));
            BUSY.index("mark" + at, s -> s.mark(2, x, y));
            BUSY.index("field" + at, s -> s.field(x, y, 0));
            BUSY.index("far" + at, s -> s.far(0, x, y));
            BUSY.index("walker" + at, s -> s.walker(2, 1, 0, x, y));
            BUSY.index("outBy" + at, s -> s.outBy(x, y, 5));
            BUSY.index("farWith" + at, s -> s.farWith(0, x, y));
        }
        for (int goal : new int[] {32, 33, -32, 64, 256}) {
            BUSY.index("mark for goal " + goal, s -> s.mark(goal, 1, 1));
            BUSY.index("far from goal " + goal, s -> s.far(goal, 1, 1));
            BUSY.index("farthest from goal " + goal, s -> s.farthest(goal));
            BUSY.index("walker to goal " + goal, s -> s.walker(goal, 1, 0, 1, 1));
            BUSY.index("turnTo goal " + goal, s -> s.turnTo(2, goal, 0));
            BUSY.index("farWith goal " + goal, s -> s.farWith(goal, 1, 1));
        }
    }

    /** The walkers that were there ahead of reset are none any more. */
    private static void noWalkersAtAll() {
        Check.about("There is no such walker");
        Refusal none = new Refusal(() -> {
            StarlingSquare s = busy();
            s.reset(W, H);
            return s;
        });
        for (int walker : new int[] {0, 3, 23}) {
            none.index("turnTo", s -> s.turnTo(walker, 0, 0));
            none.index("ofWalker", s -> s.ofWalker(walker, 0));
            none.index("cost", s -> s.cost(walker, 0));
            none.index("wants", s -> s.wants(walker));
            none.index("way", s -> s.way(walker, 0));
            none.index("jam", s -> s.jam(walker));
            none.index("outIn", s -> s.outIn(walker, 1));
        }
        Refusal made = new Refusal(StarlingSquare::new);
        made.index("of a new object", s -> s.ofWalker(0, 0));
        made.index("jam of a new object", s -> s.jam(0));
    }

    private static void askingChangesNothing() {
        Check.about("The calls that ask change nothing");
        for (int v = 0; v <= 3; v++) {
            int what = v;
            BUSY.unchanged("field " + what, s -> s.field(4, 4, what));
            BUSY.unchanged("far " + what, s -> s.far(what, 1, 1));
            BUSY.unchanged("farthest " + what, s -> s.farthest(what));
            BUSY.unchanged("jam " + what, s -> s.jam(what));
        }
        for (int v = 0; v <= 8; v++) {
            int what = v;
            BUSY.unchanged("many " + what, s -> s.many(what));
            BUSY.unchanged("ofWalker " + what, s -> s.ofWalker(3, what));
            BUSY.unchanged("cost " + what, s -> s.cost(3, what % 5));
            BUSY.unchanged("way " + what, s -> s.way(1, what));
        }
        for (int walker = 1; walker <= 3; walker++) {
            int w = walker;
            BUSY.unchanged("wants", s -> s.wants(w));
        }
        BUSY.unchanged("clock", s -> s.clock());
        BUSY.unchanged("meanSteps", s -> (long) s.meanSteps());
        BUSY.unchanged("digest", s -> s.digest());
    }

    private static void whatWouldBeChangesNothing() {
        Check.about("what would be (nothing is changed)");
        for (int t : new int[] {1, 2, 7, 60}) {
            for (int walker = 0; walker <= 3; walker++) {
                int w = walker;
                BUSY.unchanged("outIn " + t, s -> s.outIn(w, t));
            }
            for (int draw = 0; draw <= 9; draw += 9) {
                int d = draw;
                BUSY.unchanged("outWith " + t, s -> s.outWith(t, d));
                FULL.unchanged("outWith " + t + " of 24", s -> s.outWith(t, d));
            }
            BUSY.unchanged("outBy a wall " + t, s -> s.outBy(2, 2, t));
            BUSY.unchanged("outBy a goal's field " + t, s -> s.outBy(5, 0, t));
            BUSY.unchanged("outBy a free field " + t, s -> s.outBy(1, 1, t));
            FULL.unchanged("outBy of 24 " + t, s -> s.outBy(0, 4, t));
            BUSY.unchanged("jamIn " + t, s -> s.jamIn(t));
            FULL.unchanged("jamIn of 24 " + t, s -> s.jamIn(t));
        }
        for (int goal = 0; goal <= 3; goal++) {
            int g = goal;
            BUSY.unchanged("farWith a wall", s -> s.farWith(g, 2, 2));
            BUSY.unchanged("farWith a goal's field", s -> s.farWith(g, 5, 0));
            BUSY.unchanged("farWith a walker's field", s -> s.farWith(g, 0, 0));
        }
    }
}
