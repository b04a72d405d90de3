import java.math.BigInteger;

/** What the document says of the edges of what would be: promises 20 to 25. */
public final class AheadEdgesTest {
    private static final int NONE = -1;

    private AheadEdgesTest() {
    }

    public static void main(String[] args) {
        outInWithinSoMany();
        outInWithin60();
        outInCountsTicks();
        outInOfOneThatIsOut();
        outInWithOthersInTheWay();
        outInIsWhatComes();
        outWithThoseThatAreOutNow();
        outWithEachDraw();
        outWithOneTickAndSixty();
        outWithAllOf24();
        outByAWallAndByAFreeField();
        outByCanBeBelow0();
        outByAWallThatIsMarked();
        outByTheFieldOfTheGoal();
        outByLeavesWhoIsOut();
        outByIsWhatComes();
        jamInIfThereIsOne();
        jamInWithinSoMany();
        jamInWithin60();
        jamInWithJamAsItIs();
        jamInNever();
        farWithAFreeField();
        farWithAWall();
        farWithTheMarkedField();
        farWithTheFirstAndTheLastField();
        farWithoutAMark();
        farWithAllWalls();
        digestBeginsWith967();
        digestWrapsAround();
        digestLeavesOutCostsOfWhoIsOut();
        digestTellsApart();
        Check.end();
    }

    /** A corridor of w FIELDS, in the first row; the second one is a WALL. */
    private static StarlingSquare corridor(int w) {
        StarlingSquare s = new StarlingSquare();
        s.reset(w, 2);
        s.wall(0, 1, w - 1, 1, true);
        return s;
    }

    /** A snake through 14 times 14; (0, 8) is 60 FAR from its begin, which is GOAL 0. */
    private static StarlingSquare snake() {
        StarlingSquare s = new StarlingSquare();
        s.reset(14, 14);
        for (int y = 1; y < 14; y += 2) {
            int gap = y % 4 == 1 ? 13 : 0;
            s.wall(0, y, 13, y, true);
            s.wall(gap, y, gap, y, false);
        }
        s.mark(0, 0, 0);
        return s;
    }

    private static void outInWithinSoMany() {
        Check.about("Promise 20: NONE if not within so many");
        StarlingSquare s = corridor(14);
        s.mark(0, 0, 0);
        s.walker(0, 1, 0, 13, 0);
        Check.due("within 12", NONE, s.outIn(0, 12));
        Check.due("within 13", 13, s.outIn(0, 13));
        Check.due("within 14", 13, s.outIn(0, 14));
        Check.due("within 1", NONE, s.outIn(0, 1));
        s.tick(12);
        Check.due("the last step, within 1", 1, s.outIn(0, 1));
        Check.due("within 60", 1, s.outIn(0, 60));
        s.wall(0, 0, 0, 0, true);
        Check.due("never", NONE, s.outIn(0, 60));
    }

    private static void outInWithin60() {
        Check.about("Promise 20: ticks 1 to 60");
        StarlingSquare s = snake();
        s.walker(0, 1, 0, 0, 8);
        Check.due("how far", 60, s.ofWalker(0, 7));
        Check.due("the 60th tick", 60, s.outIn(0, 60));
        Check.due("not the 59th", NONE, s.outIn(0, 59));
        StarlingSquare t = snake();
        t.walker(0, 1, 0, 1, 8);
        Check.due("one field farther", NONE, t.outIn(0, 60));
        t.tick(1);
        Check.due("one tick later", 60, t.outIn(0, 60));
    }

    private static void outInCountsTicks() {
        Check.about("Promise 20: behind how many TICKS it would be OUT");
        for (int pace = 1; pace <= 3; pace++) {
            for (int clock = 0; clock <= 6; clock++) {
                StarlingSquare s = corridor(14);
                for (int t = 0; t < clock; t++) {
                    s.tick(1);
                }
                s.mark(0, 0, 0);
                s.walker(0, pace, 0, 4, 0);
                int due = (clock / pace + 4) * pace - clock;
                Check.due("pace " + pace + " from " + clock, due, s.outIn(0, 60));
                Check.due("no longer, pace " + pace + " from " + clock, due, s.outIn(0, due));
                Check.due("no shorter, pace " + pace + " from " + clock, NONE, s.outIn(0, due - 1));
            }
        }
    }

    private static void outInOfOneThatIsOut() {
        Check.about("Promise 20: 0, if it is");
        StarlingSquare s = corridor(5);
        s.mark(0, 0, 0);
        s.walker(0, 1, 0, 1, 0);
        Check.due("it is not yet", 1, s.outIn(0, 60));
        s.tick(1);
        Check.due("within 1", 0, s.outIn(0, 1));
        Check.due("within 60", 0, s.outIn(0, 60));
        s.mark(0, 0, 0);
        Check.due("though its goal is gone", 0, s.outIn(0, 60));
    }

    private static void outInWithOthersInTheWay() {
        Check.about("Promise 20: behind how many it would be OUT");
        StarlingSquare s = corridor(10);
        s.mark(0, 0, 0);
        s.walker(0, 1, 0, 4, 0);
        s.walker(0, 3, 0, 3, 0);
        Check.due("it would be 4 alone, but there is one ahead with pace 3", 9, s.outIn(1, 60));
        Check.due("so it comes two ticks behind that one", 11, s.outIn(0, 60));
        s.turnTo(1, 1, 0);
        Check.due("one that stays shuts the way", NONE, s.outIn(0, 60));
    }

    private static StarlingSquare crowd(int kind) {
        StarlingSquare s = new StarlingSquare();
        s.reset(9, 7);
        s.set(kind, 4);
        s.mark(0, 8, 3);
        s.mark(1, 0, 3);
        s.mark(2, 4, 0);
        s.wall(4, 2, 4, 4, true);
        for (int i = 0; i < 18; i++) {
            int x = i % 2 == 0 ? i / 2 % 3 : 8 - i / 2 % 3;
            s.walker(i % 3, 1 + (i + kind) % 3, i % 4, x, i / 6 * 2 + 1 - (i / 6 == 1 ? 1 : 0));
        }
        return s;
    }

    private static void outInIsWhatComes() {
        Check.about("Promise 20: behind how many it would be OUT");
        for (int kind = 0; kind < 6; kind++) {
            StarlingSquare s = crowd(kind);
            int[] due = new int[18];
            for (int i = 0; i < 18; i++) {
                due[i] = s.outIn(i, 40);
            }
            int all = s.outWith(40, kind);
            int jam = s.jamIn(40);
            int firstJam = NONE;
            for (int t = 1; t <= 40; t++) {
                s.tick(1);
                firstJam = firstJam == NONE && s.many(4) > 0 ? t : firstJam;
            }
            for (int i = 0; i < 18; i++) {
                Check.due("walker " + i + " of crowd " + kind, s.ofWalker(i, 8), due[i]);
            }
            Check.due("all of crowd " + kind, s.many(1), all);
            Check.due("the jam of crowd " + kind, firstJam, jam);
        }
    }

    private static void outWithThoseThatAreOutNow() {
        Check.about("Promise 21: with those that are OUT now");
        StarlingSquare s = corridor(8);
        Check.due("without walkers", 0, s.outWith(60, 2));
        s.mark(0, 0, 0);
        s.walker(0, 1, 0, 1, 0);
        s.walker(0, 1, 0, 4, 0);
        s.tick(1);
        Check.due("one is out now", 1, s.outWith(1, 2));
        Check.due("one more is not yet", 1, s.outWith(2, 2));
        Check.due("but behind 3", 2, s.outWith(3, 2));
        s.tick(20);
        Check.due("all are out", 2, s.outWith(1, 9));
    }

    /** Its GOAL is on the left above it; the more it is drawn to the right, the later it comes there. */
    private static StarlingSquare drawnAside() {
        StarlingSquare s = new StarlingSquare();
        s.mark(0, 9, 3);
        s.mark(1, 3, 0);
        s.walker(0, 1, 0, 2, 3);
        s.walker(0, 1, 0, 2, 4);
        s.walker(0, 1, 0, 4, 4);
        s.tick(1);
        s.walker(1, 1, 0, 4, 3);
        return s;
    }

    private static void outWithEachDraw() {
        Check.about("Promise 21: with that DRAW");
        for (int now = 0; now <= 9; now++) {
            StarlingSquare s = drawnAside();
            s.set(now, 3);
            for (int draw = 0; draw <= 9; draw++) {
                StarlingSquare t = drawnAside();
                t.set(draw, 3);
                t.tick(4);
                Check.due("DRAW " + draw + " instead of " + now, t.many(1), s.outWith(4, draw));
            }
            Check.due("DRAW is as it was", now, s.set(2, 3));
        }
        Check.due("with DRAW 0 it is out", 1, drawnAside().outWith(4, 0));
        Check.due("with DRAW 9 it is not", 0, drawnAside().outWith(4, 9));
    }

    private static void outWithOneTickAndSixty() {
        Check.about("Promise 21: ticks 1 to 60");
        StarlingSquare s = snake();
        s.walker(0, 1, 0, 0, 8);
        s.walker(0, 1, 0, 1, 0);
        Check.due("the near one with 1", 1, s.outWith(1, 2));
        Check.due("the far one not with 59", 1, s.outWith(59, 2));
        Check.due("but with 60", 2, s.outWith(60, 2));
        Check.due("no tick went by", 0, s.clock());
    }

    private static void outWithAllOf24() {
        Check.about("Promise 21: how many walkers would be OUT");
        StarlingSquare s = new StarlingSquare();
        s.reset(14, 14);
        for (int i = 0; i < 24; i++) {
            int x = i % 12;
            int row = i / 12;
            s.mark(row, x, 13 * row);
            s.walker(row, 1, 0, x, 1 + 11 * row);
        }
        Check.due("all", 24, s.outWith(1, 0));
        Check.due("none now", 0, s.many(1));
    }

    /** A wall with one gap between the walkers and their GOAL. */
    private static StarlingSquare gate() {
        StarlingSquare s = new StarlingSquare();
        s.reset(7, 3);
        s.mark(0, 6, 1);
        s.wall(3, 0, 3, 2, true);
        s.wall(3, 1, 3, 1, false);
        s.walker(0, 1, 0, 2, 1);
        s.walker(0, 1, 0, 0, 0);
        return s;
    }

    private static void outByAWallAndByAFreeField() {
        Check.about("Promise 22: if it was otherwise a WALL than now");
        StarlingSquare s = gate();
        Check.due("the gap, too early", 0, s.outBy(3, 1, 3));
        Check.due("the gap, with the first one", -1, s.outBy(3, 1, 4));
        Check.due("the gap, with both", -2, s.outBy(3, 1, 60));
        s.wall(3, 1, 3, 1, true);
        Check.due("a gap, too early", 0, s.outBy(3, 1, 3));
        Check.due("a gap, with the first one", 1, s.outBy(3, 1, 4));
        Check.due("a gap, with both", 2, s.outBy(3, 1, 60));
        Check.due("one tick", 0, s.outBy(3, 1, 1));
        Check.due("it is a wall still", 1, s.field(3, 1, 0));
    }

    private static void outByCanBeBelow0() {
        Check.about("Promise 22: it can be below 0");
        StarlingSquare s = new StarlingSquare();
        s.reset(14, 4);
        s.mark(0, 13, 0);
        s.wall(12, 0, 12, 3, true);
        s.wall(12, 0, 12, 0, false);
        for (int i = 0; i < 24; i++) {
            s.walker(0, 1, 0, 11 - i / 4, i % 4);
        }
        int out = s.outWith(60, 2);
        Check.due("all that would be out are not", -out, s.outBy(12, 0, 60));
        Check.due("that are many", 1, out > 12 ? 1 : 0);
    }

    private static void outByAWallThatIsMarked() {
        Check.about("Promise 22: as with wall(); 1: to one that is FREE and MARKED for it");
        StarlingSquare s = corridor(4);
        s.mark(0, 3, 0);
        s.wall(3, 0, 3, 0, true);
        s.walker(0, 1, 0, 1, 0);
        Check.due("it becomes a goal", 1, s.outBy(3, 0, 2));
        Check.due("not with one tick", 0, s.outBy(3, 0, 1));
        s.mark(0, 3, 0);
        Check.due("not marked, it is none", 0, s.outBy(3, 0, 60));
    }

    private static void outByTheFieldOfTheGoal() {
        Check.about("Promise 22: if it was otherwise a WALL than now");
        StarlingSquare s = corridor(9);
        s.mark(0, 0, 0);
        s.mark(0, 8, 0);
        s.walker(0, 1, 0, 3, 0);
        Check.due("there is another way, but longer", -1, s.outBy(0, 0, 4));
        Check.due("it takes 5", 0, s.outBy(0, 0, 5));
        Check.due("the other one is not needed", 0, s.outBy(8, 0, 60));
    }

    private static void outByLeavesWhoIsOut() {
        Check.about("Promise 22: how many walkers more would be OUT");
        StarlingSquare s = corridor(6);
        s.mark(0, 0, 0);
        s.walker(0, 1, 0, 1, 0);
        s.walker(0, 1, 0, 3, 0);
        s.tick(1);
        Check.due("one is out, with or without", -1, s.outBy(0, 0, 60));
        s.tick(20);
        Check.due("both are", 0, s.outBy(0, 0, 60));
        Check.due("where they came from", 0, s.outBy(1, 0, 1));
    }

    private static void outByIsWhatComes() {
        Check.about("Promise 22: as with wall()");
        for (int kind = 0; kind < 4; kind++) {
            for (int number = 0; number < 63; number++) {
                int x = number % 9;
                int y = number / 9;
                StarlingSquare with = crowd(kind);
                if (with.field(x, y, 1) == NONE) {
                    StarlingSquare without = crowd(kind);
                    int got = without.outBy(x, y, 20);
                    with.wall(x, y, x, y, with.field(x, y, 0) == 0);
                    int due = with.tick(20) - without.tick(20);
                    Check.due("field " + number + " of crowd " + kind, due, got);
                }
            }
        }
    }

    private static void jamInIfThereIsOne() {
        Check.about("Promise 23: 0, if there is one");
        StarlingSquare s = new StarlingSquare();
        s.walker(0, 1, 0, 4, 4);
        s.tick(2);
        Check.due("not yet", 1, s.jamIn(1));
        s.tick(1);
        Check.due("now, within 1", 0, s.jamIn(1));
        Check.due("now, within 60", 0, s.jamIn(60));
        s.mark(0, 4, 3);
        Check.due("though it would end with the next tick", 0, s.jamIn(60));
        s.set(2, 4);
        Check.due("with a greater JAM there is none", NONE, s.jamIn(60));
    }

    private static void jamInWithinSoMany() {
        Check.about("Promise 23: NONE if not within so many");
        for (int jam = 1; jam <= 20; jam++) {
            StarlingSquare s = new StarlingSquare();
            s.set(2, jam);
            s.walker(0, 1, 0, 4, 4);
            Check.due("JAM " + jam + ", just within", jam, s.jamIn(jam));
            Check.due("JAM " + jam + ", long within", jam, s.jamIn(60));
            if (jam > 1) {
                Check.due("JAM " + jam + ", not within", NONE, s.jamIn(jam - 1));
            }
        }
    }

    private static void jamInWithin60() {
        Check.about("Promise 23: ticks 1 to 60");
        StarlingSquare s = new StarlingSquare();
        s.set(2, 20);
        s.walker(0, 3, 0, 4, 4);
        Check.due("20 turns with pace 3", 60, s.jamIn(60));
        Check.due("not within 59", NONE, s.jamIn(59));
        s.tick(4);
        Check.due("one turn is gone, and a tick", 56, s.jamIn(60));
        StarlingSquare t = corridor(4);
        t.set(2, 20);
        t.mark(0, 3, 0);
        t.mark(1, 0, 0);
        t.walker(0, 3, 0, 0, 0);
        t.walker(1, 3, 0, 3, 0);
        Check.due("both go one step before they wait: 63", NONE, t.jamIn(60));
        t.tick(2);
        Check.due("61", NONE, t.jamIn(60));
        t.tick(1);
        Check.due("60", 60, t.jamIn(60));
    }

    private static void jamInWithJamAsItIs() {
        Check.about("Promise 23: behind how many there would be a JAM");
        StarlingSquare s = corridor(6);
        s.mark(0, 5, 0);
        s.walker(0, 1, 0, 0, 0);
        s.walker(1, 3, 0, 3, 0);
        Check.due("two steps, and three to wait", 5, s.jamIn(60));
        s.set(2, 1);
        Check.due("JAM 1", 3, s.jamIn(60));
        s.set(2, 2);
        Check.due("JAM 2", 4, s.jamIn(60));
        s.set(2, 20);
        Check.due("JAM 20", 22, s.jamIn(60));
    }

    private static void jamInNever() {
        Check.about("Promise 23: NONE if not within so many");
        StarlingSquare s = corridor(6);
        Check.due("without walkers", NONE, s.jamIn(60));
        s.set(2, 1);
        s.mark(0, 5, 0);
        s.walker(0, 1, 0, 0, 0);
        Check.due("one that is out ahead of any", NONE, s.jamIn(60));
        s.tick(20);
        Check.due("one that is out", NONE, s.jamIn(60));
    }

    private static void farWithAFreeField() {
        Check.about("Promise 24: of how many FIELDS that are FREE, but that");
        StarlingSquare s = new StarlingSquare();
        s.reset(5, 3);
        s.mark(0, 0, 1);
        s.wall(2, 0, 2, 2, true);
        s.wall(2, 1, 2, 1, false);
        Check.due("shut: all six behind it, not itself", 6, s.farWith(0, 2, 1));
        Check.due("ahead of it: it and all behind it are farther", 7, s.farWith(0, 1, 1));
        Check.due("behind it: all five others are farther or cut off", 5, s.farWith(0, 3, 1));
        Check.due("in a corner: nothing needs it", 0, s.farWith(0, 4, 0));
        Check.due("in another corner", 0, s.farWith(0, 0, 0));
    }

    private static void farWithAWall() {
        Check.about("Promise 24: if it was otherwise a WALL than now");
        StarlingSquare s = new StarlingSquare();
        s.reset(5, 3);
        s.mark(0, 0, 1);
        s.wall(2, 0, 2, 2, true);
        Check.due("open in the midst: all six behind it", 6, s.farWith(0, 2, 1));
        Check.due("open at the edge: all six behind it", 6, s.farWith(0, 2, 0));
        s.wall(2, 0, 2, 0, false);
        Check.due("open in the midst, too: four are nearer", 6 - 2, s.farWith(0, 2, 1));
        s.wall(3, 0, 4, 2, true);
        Check.due("walls are not looked at", 0, s.farWith(0, 2, 1));
    }

    private static void farWithTheMarkedField() {
        Check.about("Promise 24: how FAR they are from the GOAL");
        StarlingSquare s = corridor(6);
        s.mark(0, 0, 0);
        Check.due("all but that are none far", 5, s.farWith(0, 0, 0));
        s.mark(0, 5, 0);
        Check.due("the half of it that is farther now", 2, s.farWith(0, 0, 0));
        s.wall(0, 0, 0, 0, true);
        Check.due("a marked wall that is open: they are nearer", 2, s.farWith(0, 0, 0));
        s.wall(5, 0, 5, 0, true);
        Check.due("without another one: all four", 4, s.farWith(0, 0, 0));
        Check.due("for another goal nothing", 0, s.farWith(1, 0, 0));
    }

    private static void farWithTheFirstAndTheLastField() {
        Check.about("Promise 24: of how many FIELDS that are FREE");
        StarlingSquare s = corridor(6);
        s.mark(0, 5, 0);
        Check.due("the first one alone", 1, s.farWith(0, 1, 0));
        s.reset(2, 6);
        s.mark(0, 0, 0);
        s.wall(0, 1, 0, 5, true);
        Check.due("the last one alone", 1, s.farWith(0, 1, 4));
        s.wall(0, 0, 1, 5, false);
        s.mark(0, 0, 0);
        s.mark(0, 1, 5);
        Check.due("without a mark all others", 11, s.farWith(0, 1, 5));
        s.wall(1, 5, 1, 5, true);
        Check.due("with it again all others", 11, s.farWith(0, 1, 5));
    }

    private static void farWithoutAMark() {
        Check.about("Promise 24: of how many FIELDS it would be otherwise");
        StarlingSquare s = corridor(6);
        for (int goal = 0; goal < 4; goal++) {
            Check.due("a free field", 0, s.farWith(goal, 3, 0));
            Check.due("a wall", 0, s.farWith(goal, 3, 1));
        }
    }

    private static void farWithAllWalls() {
        Check.about("Promise 24: FIELDS that are FREE, but that");
        StarlingSquare s = new StarlingSquare();
        s.reset(2, 2);
        s.mark(0, 0, 0);
        s.wall(0, 0, 1, 1, true);
        Check.due("the only free one would be that", 0, s.farWith(0, 0, 0));
        s.wall(0, 0, 0, 0, false);
        Check.due("none is left without that", 0, s.farWith(0, 0, 0));
        s.reset(14, 14);
        s.mark(3, 0, 0);
        s.wall(1, 0, 1, 0, true);
        Check.due("shut in: all but the goal, that, and the wall", 193, s.farWith(3, 0, 1));
        s.walker(3, 1, 0, 0, 1);
        Check.due("walkers are not looked at", 193, s.farWith(3, 0, 1));
    }

    private static void digestBeginsWith967() {
        Check.about("Promise 25: A number d starts with 967");
        StarlingSquare s = new StarlingSquare();
        s.reset(2, 2);
        BigInteger d = step(BigInteger.valueOf(967), s.clock());
        for (int what = 0; what <= 8; what++) {
            d = step(d, s.many(what));
        }
        for (int goal = 0; goal < 4; goal++) {
            d = step(d, NONE);
        }
        for (int number = 0; number < 4; number++) {
            for (int what = 0; what < 7; what++) {
                d = step(d, what == 0 || what == 2 ? 0 : NONE);
            }
        }
        Check.due("of the smallest one", d.longValue(), s.digest());
    }

    private static BigInteger step(BigInteger d, int v) {
        return d.multiply(BigInteger.valueOf(31)).add(BigInteger.valueOf(v));
    }

    /** d without a limit; as a long, only its lowest 64 bits are left. */
    private static BigInteger endlessDigest(StarlingSquare s, int w, int h) {
        BigInteger d = step(BigInteger.valueOf(967), s.clock());
        for (int what = 0; what <= 8; what++) {
            d = step(d, s.many(what));
        }
        for (int goal = 0; goal < 4; goal++) {
            d = step(d, s.farthest(goal));
        }
        for (int walker = 0; walker < s.many(0); walker++) {
            for (int what = 0; what <= 8; what++) {
                d = step(d, s.ofWalker(walker, what));
            }
            d = step(d, s.jam(walker));
            for (int side = 0; side <= 4 && s.ofWalker(walker, 3) != NONE; side++) {
                d = step(d, s.cost(walker, side));
            }
        }
        for (int number = 0; number < w * h; number++) {
            for (int what = 0; what <= 2; what++) {
                d = step(d, s.field(number % w, number / w, what));
            }
            for (int goal = 0; goal < 4; goal++) {
                d = step(d, s.far(goal, number % w, number / w));
            }
        }
        return d;
    }

    private static void digestWrapsAround() {
        Check.about("Promise 25: which wraps around as a 64-bit integer");
        StarlingSquare s = new StarlingSquare();
        s.reset(14, 14);
        s.set(9, 1);
        s.mark(0, 13, 13);
        s.mark(1, 0, 13);
        s.wall(3, 6, 10, 6, true);
        for (int i = 0; i < 24; i++) {
            s.walker(i % 3, 1 + i % 3, i % 10, i % 12, i / 12 * 5);
        }
        int signs = 0;
        for (int t = 0; t < 10; t++) {
            BigInteger d = endlessDigest(s, 14, 14);
            Check.due("it is far above 64 bits", 1, d.bitLength() > 1000 ? 1 : 0);
            Check.due("behind " + t, d.longValue(), s.digest());
            signs |= s.digest() < 0 ? 1 : 2;
            s.tick(2);
        }
        Check.due("below 0, and above 0", 3, signs);
    }

    private static void digestLeavesOutCostsOfWhoIsOut() {
        Check.about("Promise 25: and, if it is not OUT, cost() of 0 to 4");
        StarlingSquare s = corridor(5);
        s.mark(0, 4, 0);
        s.walker(0, 1, 0, 3, 0);
        s.walker(0, 1, 0, 1, 0);
        Check.due("none is out", endlessDigest(s, 5, 2).longValue(), s.digest());
        s.tick(1);
        Check.due("one is out", endlessDigest(s, 5, 2).longValue(), s.digest());
        s.tick(5);
        Check.due("all are out", 2, s.many(1));
        Check.due("without any costs", endlessDigest(s, 5, 2).longValue(), s.digest());
    }

    private static void digestTellsApart() {
        Check.about("Promise 25: for each v in this order");
        StarlingSquare s = new StarlingSquare();
        long first = s.digest();
        s.mark(0, 5, 5);
        long marked = s.digest();
        s.wall(0, 0, 0, 0, true);
        long walled = s.digest();
        s.tick(1);
        long later = s.digest();
        Check.due("marked", 1, first != marked ? 1 : 0);
        Check.due("walled", 1, marked != walled ? 1 : 0);
        Check.due("later", 1, walled != later ? 1 : 0);
        s.reset(10, 8);
        Check.due("as at first", first, s.digest());
    }
}
