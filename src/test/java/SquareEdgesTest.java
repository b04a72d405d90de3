/** What the document says of the edges of the square: "What it is", term 1, and promises 1 to 8. */
public final class SquareEdgesTest {
    private static final int NONE = -1;

    private SquareEdgesTest() {
    }

    public static void main(String[] args) {
        the512thCall();
        the512thOfTheDearestCall();
        eachSize();
        numbersInRowsOfAnyLength();
        sidesBegins0();
        roundIs8AtMost();
        roundEndsAtTheEdge();
        besideEndsAtTheEdge();
        goalsAreApart();
        farIs0ForThatItself();
        farOverSidesAlone();
        farIsTheLeastNumber();
        farIsNoneInAWall();
        farIsNoneWithoutMarks();
        farRoundALongWay();
        aNewObjectIsAs10Times8();
        aNewObjectHasDraw2AndJam3();
        eachObjectByItself();
        resetLeavesDrawAndJam();
        resetForgetsAllElse();
        resetForgetsWhatLayOutside();
        wallWithCornersInAnyOrder();
        wallOfAllFields();
        wallOfOneField();
        wallTwiceAndFreeTwice();
        wallTouchesNothingBeside();
        wallFreeOverWalkers();
        markAndNotAnyMore();
        markOfAllFields();
        markInAWall();
        markUnderOthers();
        setReturnsDrawBefore();
        fieldOfNothingAndOfAll();
        fieldKeepsHeatUnderAWall();
        farthestOfNothingAndOfAll();
        Check.end();
    }

    private static void the512thCall() {
        Check.about("What it is: an object is used for at most 512 calls");
        StarlingSquare s = new StarlingSquare();
        s.reset(14, 14);
        for (int i = 0; i < 24; i++) {
            s.walker(3, 1, 9, i % 14, i / 14);
        }
        for (int call = 26; call <= 509; call++) {
            s.tick(20);
        }
        Check.due("the 510th call", 9680, s.clock());
        Check.due("the 511th call", 9680, s.ofWalker(23, 5));
        Check.due("the 512th call", 24, s.many(5));
    }

    private static void the512thOfTheDearestCall() {
        Check.about("What it is: an object is used for at most 512 calls");
        StarlingSquare s = new StarlingSquare();
        s.reset(14, 14);
        s.mark(0, 13, 13);
        for (int i = 0; i < 24; i++) {
            s.walker(0, 1, 9, i % 14, i / 14);
        }
        int first = s.outBy(12, 13, 60);
        for (int call = 28; call <= 511; call++) {
            s.outBy(12, 13, 60);
        }
        Check.due("the 512th call answers as the first one", first, s.outBy(12, 13, 60));
    }

    private static void eachSize() {
        Check.about("1: W times H FIELDS (2 to 14 each), x to W - 1, y to H - 1");
        for (int w = 2; w <= 14; w++) {
            for (int h = 2; h <= 14; h++) {
                checkSize(w, h);
            }
        }
    }

    private static void checkSize(int w, int h) {
        StarlingSquare s = new StarlingSquare();
        String size = w + " times " + h;
        Check.due("fields of " + size, w * h, s.reset(w, h));
        s.mark(3, 0, 0);
        Check.due("the last field of " + size, w + h - 2, s.far(3, w - 1, h - 1));
        Check.due("none is farther in " + size, w + h - 2, s.farthest(3));
        Check.indexRefused("x " + w + " of " + size, s, () -> s.field(w, h - 1, 0));
        Check.indexRefused("y " + h + " of " + size, s, () -> s.field(w - 1, h, 0));
        Check.due("all walls of " + size, w * h, s.wall(w - 1, h - 1, 0, 0, true));
    }

    private static void numbersInRowsOfAnyLength() {
        Check.about("1: the NUMBER of a FIELD is y * W + x");
        int[][] sizes = {{2, 2}, {2, 14}, {14, 2}, {14, 14}, {5, 3}, {10, 8}};
        for (int[] size : sizes) {
            int w = size[0];
            int h = size[1];
            StarlingSquare s = new StarlingSquare();
            s.reset(w, h);
            s.walker(0, 1, 0, 0, 0);
            s.walker(0, 1, 0, w - 1, 0);
            s.walker(0, 1, 0, 0, h - 1);
            s.walker(0, 1, 0, w - 1, h - 1);
            Check.due("the first", 0, s.ofWalker(0, 3));
            Check.due("the last of the first row", w - 1, s.ofWalker(1, 3));
            Check.due("the first of the last row", (h - 1) * w, s.ofWalker(2, 3));
            Check.due("the last", w * h - 1, s.ofWalker(3, 3));
        }
    }

    private static void sidesBegins0() {
        Check.about("1: SIDES: 0 (1, 0), 1 (0, 1), 2 (-1, 0), 3 (0, -1)");
        int[] dx = {1, 0, -1, 0};
        int[] dy = {0, 1, 0, -1};
        for (int side = 0; side < 4; side++) {
            StarlingSquare s = new StarlingSquare();
            s.reset(5, 4);
            s.mark(0, 2 + dx[side], 1 + dy[side]);
            s.walker(0, 1, 0, 2, 1);
            Check.due("it wants side " + side, side, s.wants(0));
            Check.due("at no cost", 0, s.cost(0, side));
            Check.due("the field there", (1 + dy[side]) * 5 + 2 + dx[side], s.way(0, 1));
            s.tick(1);
            Check.due("it went in side " + side, side, s.ofWalker(0, 4));
            Check.due("to that field", 1, s.field(2 + dx[side], 1 + dy[side], 2));
        }
    }

    private static void roundIs8AtMost() {
        Check.about("1: ROUND a FIELD are those beside it, over a corner, too (8 at most)");
        StarlingSquare s = new StarlingSquare();
        s.reset(5, 5);
        Check.due("nobody is round it", 0, s.field(2, 2, 3));
        int[][] round = {{1, 1}, {2, 1}, {3, 1}, {1, 2}, {3, 2}, {1, 3}, {2, 3}, {3, 3}};
        for (int i = 0; i < 8; i++) {
            s.walker(0, 1, 0, round[i][0], round[i][1]);
            Check.due("one more round it", i + 1, s.field(2, 2, 3));
        }
        s.walker(0, 1, 0, 2, 2);
        Check.due("who is on it is not round it", 8, s.field(2, 2, 3));
        s.walker(0, 1, 0, 0, 0);
        s.walker(0, 1, 0, 4, 2);
        Check.due("nor who is two away", 8, s.field(2, 2, 3));
    }

    private static void roundEndsAtTheEdge() {
        Check.about("1: ROUND a FIELD are those beside it; x from 0 to W - 1");
        StarlingSquare s = new StarlingSquare();
        s.reset(6, 4);
        for (int i = 0; i < 24; i++) {
            s.walker(0, 1, 0, i % 6, i / 6);
        }
        for (int i = 0; i < 24; i++) {
            boolean isEdgeX = i % 6 == 0 || i % 6 == 5;
            boolean isEdgeY = i / 6 == 0 || i / 6 == 3;
            int due = isEdgeX && isEdgeY ? 3 : isEdgeX || isEdgeY ? 5 : 8;
            Check.due("round the field with number " + i, due, s.field(i % 6, i / 6, 3));
        }
        s.reset(2, 2);
        s.walker(0, 1, 0, 0, 0);
        Check.due("once round each in the smallest square", 1, s.field(1, 0, 3));
        Check.due("over the corner, too", 1, s.field(1, 1, 3));
        Check.due("not round itself", 0, s.field(0, 0, 3));
    }

    private static void besideEndsAtTheEdge() {
        Check.about("1: a step is one over SIDES; x from 0 to W - 1");
        StarlingSquare s = new StarlingSquare();
        s.reset(14, 3);
        s.mark(0, 13, 0);
        Check.due("from one edge to the other", 13, s.far(0, 0, 0));
        Check.due("the next number is not beside it", 14, s.far(0, 0, 1));
        Check.due("nor is the last row beside the first", 2, s.far(0, 13, 2));
        s.walker(0, 1, 0, 0, 1);
        Check.due("there is no side over the left edge", 10000, s.cost(0, 2));
        s.walker(1, 1, 0, 13, 2);
        s.mark(1, 0, 0);
        Check.due("nor over the right edge", 10000, s.cost(1, 0));
        Check.due("nor below", 10000, s.cost(1, 1));
        s.walker(1, 1, 0, 5, 0);
        Check.due("nor above", 10000, s.cost(2, 3));
    }

    private static void goalsAreApart() {
        Check.about("1: There are 4 GOALS, numbered from 0, each some FIELDS");
        StarlingSquare s = new StarlingSquare();
        for (int goal = 0; goal < 4; goal++) {
            Check.due("the first field of goal " + goal, 1, s.mark(goal, 2 * goal, goal));
            for (int other = goal + 1; other < 4; other++) {
                Check.due("goal " + other + " has none yet", NONE, s.farthest(other));
            }
        }
        for (int goal = 0; goal < 4; goal++) {
            for (int other = 0; other < 4; other++) {
                int way = 3 * Math.abs(goal - other);
                Check.due("from " + goal + " to " + other, way, s.far(other, 2 * goal, goal));
            }
        }
        for (int goal = 0; goal < 4; goal++) {
            s.mark(goal, 9, 7);
        }
        Check.due("taken from one goal", 1, s.mark(0, 9, 7));
        Check.due("the others keep it", 3, s.mark(3, 8, 7));
    }

    private static void farIs0ForThatItself() {
        Check.about("1: How FAR: 0 for that itself");
        StarlingSquare s = new StarlingSquare();
        s.mark(2, 9, 7);
        Check.due("that itself", 0, s.far(2, 9, 7));
        Check.due("beside it", 1, s.far(2, 8, 7));
        Check.due("above it", 1, s.far(2, 9, 6));
        Check.due("over its corner", 2, s.far(2, 8, 6));
        s.walker(1, 1, 0, 9, 7);
        Check.due("with a walker on it", 0, s.far(2, 9, 7));
    }

    private static void farOverSidesAlone() {
        Check.about("1: How FAR: the least number of steps over SIDES, on FREE FIELDS alone");
        StarlingSquare s = new StarlingSquare();
        s.reset(3, 3);
        s.mark(0, 0, 0);
        s.wall(1, 0, 1, 0, true);
        s.wall(0, 1, 0, 1, true);
        Check.due("there is no way over a corner", NONE, s.far(0, 1, 1));
        Check.due("the mark alone is reached", 0, s.farthest(0));
        s.wall(0, 1, 0, 1, false);
        Check.due("through the gap", 2, s.far(0, 1, 1));
        Check.due("and round to the end", 4, s.far(0, 2, 2));
        Check.due("and back", 4, s.far(0, 2, 0));
    }

    private static void farIsTheLeastNumber() {
        Check.about("1: How FAR: the least number of steps to one that is MARKED");
        StarlingSquare s = new StarlingSquare();
        s.reset(9, 2);
        s.mark(0, 0, 0);
        s.mark(0, 8, 0);
        int[] due = {0, 1, 2, 3, 4, 3, 2, 1, 0};
        for (int x = 0; x < 9; x++) {
            Check.due("between two, x " + x, due[x], s.far(0, x, 0));
            Check.due("a row below, x " + x, due[x] + 1, s.far(0, x, 1));
        }
        s.mark(0, 0, 0);
        Check.due("one is not marked any more", 8, s.far(0, 0, 0));
    }

    private static void farIsNoneInAWall() {
        Check.about("1: How FAR: NONE, if there is no such way, or it is a WALL");
        StarlingSquare s = new StarlingSquare();
        s.reset(4, 2);
        s.mark(0, 0, 0);
        s.wall(1, 0, 1, 0, true);
        Check.due("a wall beside the mark", NONE, s.far(0, 1, 0));
        Check.due("behind it there is a way", 4, s.far(0, 2, 0));
        s.wall(1, 1, 1, 1, true);
        Check.due("behind it there is none", NONE, s.far(0, 2, 0));
        Check.due("on this side there is", 1, s.far(0, 0, 1));
        s.wall(0, 0, 0, 0, true);
        Check.due("the marked one is a wall", NONE, s.far(0, 0, 0));
        Check.due("then no way leads to it", NONE, s.far(0, 0, 1));
        s.mark(0, 3, 0);
        Check.due("but to another one", 1, s.far(0, 2, 0));
    }

    private static void farIsNoneWithoutMarks() {
        Check.about("1: How FAR: NONE, if there is no such way");
        StarlingSquare s = new StarlingSquare();
        s.mark(1, 4, 4);
        s.mark(1, 4, 4);
        for (int goal = 0; goal < 4; goal++) {
            Check.due("goal " + goal + " has no mark", NONE, s.far(goal, 4, 4));
        }
    }

    /** A snake through 14 times 14: seven rows of 14, and a gap between each two. */
    private static void farRoundALongWay() {
        Check.about("1: How FAR: the least number of steps, in the greatest square");
        StarlingSquare s = new StarlingSquare();
        s.reset(14, 14);
        for (int y = 1; y < 14; y += 2) {
            int gap = y % 4 == 1 ? 13 : 0;
            s.wall(0, y, 13, y, true);
            s.wall(gap, y, gap, y, false);
        }
        s.mark(3, 0, 0);
        Check.due("the last row but one ends the snake", 7 * 13 + 6 * 2, s.far(3, 13, 12));
        Check.due("the gap behind it is farther", 7 * 13 + 6 * 2 + 1, s.farthest(3));
        s.walker(3, 1, 0, 13, 12);
        Check.due("the whole way", 0, s.way(0, 103));
        Check.due("its first step", 12 * 14 + 12, s.way(0, 1));
        Check.due("not one more", NONE, s.way(0, 104));
    }

    private static void aNewObjectIsAs10Times8() {
        Check.about("Promise 1: a square of 10 times 8 FREE FIELDS, without walkers");
        StarlingSquare s = new StarlingSquare();
        StarlingSquare t = new StarlingSquare();
        t.reset(10, 8);
        Check.due("as behind reset(10, 8)", t.digest(), s.digest());
        Check.due("the clock is 0 at first", 0, s.clock());
        Check.due("without walkers", 0, s.many(0));
        for (int number = 0; number < 80; number++) {
            Check.due("free", 0, s.field(number % 10, number / 10, 0));
            Check.due("nobody", NONE, s.field(number % 10, number / 10, 1));
            Check.due("no heat", 0, s.field(number % 10, number / 10, 2));
        }
    }

    private static void aNewObjectHasDraw2AndJam3() {
        Check.about("3: DRAW 2, at first; 4: JAM 3, at first");
        StarlingSquare s = new StarlingSquare();
        s.walker(0, 1, 0, 0, 0);
        s.tick(2);
        Check.due("who waited 2 is in none", 0, s.many(3));
        s.tick(1);
        Check.due("who waited 3 is in one", 1, s.many(3));
        Check.due("draw", 2, s.set(9, 20));
        Check.due("a new one has it again", 2, new StarlingSquare().set(0, 1));
    }

    private static void eachObjectByItself() {
        Check.about("Promise 1: creates a square");
        StarlingSquare s = new StarlingSquare();
        StarlingSquare t = new StarlingSquare();
        long before = t.digest();
        s.wall(0, 0, 3, 3, true);
        s.mark(0, 9, 7);
        s.walker(0, 1, 0, 5, 5);
        s.tick(3);
        Check.due("another one is as it was", before, t.digest());
    }

    private static void resetLeavesDrawAndJam() {
        Check.about("Promise 2: DRAW and JAM stay");
        int[][] pairs = {{0, 1}, {9, 20}, {9, 1}, {0, 20}};
        for (int[] pair : pairs) {
            StarlingSquare s = new StarlingSquare();
            s.set(pair[0], pair[1]);
            s.reset(2, 2);
            s.walker(0, 1, 0, 0, 0);
            Check.due("JAM", pair[1], s.jamIn(60));
            Check.due("DRAW", pair[0], s.set(2, 3));
        }
    }

    private static void resetForgetsAllElse() {
        Check.about("Promise 2: all FREE, nothing MARKED, without walkers, without HEAT; the CLOCK is 0");
        StarlingSquare fresh = new StarlingSquare();
        StarlingSquare s = new StarlingSquare();
        s.mark(0, 0, 0);
        s.mark(3, 5, 5);
        s.wall(3, 3, 6, 3, true);
        s.walker(0, 1, 0, 2, 0);
        s.walker(3, 1, 5, 5, 0);
        s.walker(1, 1, 5, 9, 0);
        s.tick(20);
        Check.due("someone was out", 2, s.many(1));
        s.reset(10, 8);
        Check.due("as a new one", fresh.digest(), s.digest());
        for (int goal = 0; goal < 4; goal++) {
            Check.due("the first mark", 1, s.mark(goal, 9, 7));
        }
        for (int i = 0; i < 24; i++) {
            Check.due("as if there had been none", i, s.walker(0, 1, 0, i % 10, i / 10));
            fresh.walker(0, 1, 0, i % 10, i / 10);
        }
        for (int goal = 0; goal < 4; goal++) {
            fresh.mark(goal, 9, 7);
        }
        Check.due("all of them as new ones", fresh.digest(), s.digest());
        Check.due("the mean of none", 0, (long) (1000 * s.meanSteps()));
    }

    private static void resetForgetsWhatLayOutside() {
        Check.about("Promise 2: makes a new square");
        StarlingSquare s = new StarlingSquare();
        s.reset(14, 14);
        s.wall(0, 0, 13, 13, true);
        s.wall(12, 12, 13, 13, false);
        s.mark(1, 13, 13);
        s.walker(1, 1, 0, 12, 12);
        s.tick(2);
        s.reset(2, 2);
        Check.due("nothing is walls in the small one", 0, s.wall(0, 0, 1, 1, false));
        s.reset(14, 14);
        Check.due("nor in the great one again", 0, s.wall(0, 0, 0, 0, false));
        Check.due("nor marked", NONE, s.far(1, 13, 13));
        Check.due("nor hot", 0, s.field(13, 13, 2));
        Check.due("nor is somebody there", NONE, s.field(12, 12, 1));
    }

    private static void wallWithCornersInAnyOrder() {
        Check.about("Promise 3: two FIELDS as corners (in any order)");
        int[][] corners = {{2, 1, 4, 5}, {4, 5, 2, 1}, {2, 5, 4, 1}, {4, 1, 2, 5}};
        for (int[] c : corners) {
            StarlingSquare s = new StarlingSquare();
            Check.due("3 times 5", 15, s.wall(c[0], c[1], c[2], c[3], true));
            for (int number = 0; number < 80; number++) {
                int x = number % 10;
                int y = number / 10;
                boolean isIn = x >= 2 && x <= 4 && y >= 1 && y <= 5;
                Check.due("at " + x + ", " + y, isIn ? 1 : 0, s.field(x, y, 0));
            }
            Check.due("free again", 0, s.wall(c[0], c[1], c[2], c[3], false));
        }
    }

    private static void wallOfAllFields() {
        Check.about("Promise 3: returns how many FIELDS are WALLS then, all in all");
        StarlingSquare s = new StarlingSquare();
        s.reset(14, 14);
        s.mark(0, 5, 5);
        Check.due("all", 196, s.wall(13, 0, 0, 13, true));
        Check.due("then nothing is reached", NONE, s.farthest(0));
        Check.stateRefused("and nobody can come", s, () -> s.walker(1, 1, 0, 0, 0));
        Check.due("nothing is hot", 0, s.many(8));
        Check.due("one is free", 195, s.wall(5, 5, 5, 5, false));
        Check.due("the marked one", 0, s.farthest(0));
        Check.due("none", 0, s.wall(0, 13, 13, 0, false));
        Check.due("all is reached", 16, s.farthest(0));
    }

    private static void wallOfOneField() {
        Check.about("Promise 3: the rectangle that has two FIELDS as corners");
        StarlingSquare s = new StarlingSquare();
        Check.due("the first field", 1, s.wall(0, 0, 0, 0, true));
        Check.due("the last field", 2, s.wall(9, 7, 9, 7, true));
        Check.due("a row from edge to edge", 12, s.wall(0, 3, 9, 3, true));
        Check.due("a column, crossing it", 19, s.wall(4, 7, 4, 0, true));
    }

    private static void wallTwiceAndFreeTwice() {
        Check.about("Promise 3: makes all FIELDS of the rectangle WALLS, or FREE");
        StarlingSquare s = new StarlingSquare();
        Check.due("free what is free", 0, s.wall(0, 0, 9, 7, false));
        Check.due("walls", 4, s.wall(1, 1, 2, 2, true));
        Check.due("half of them again", 6, s.wall(2, 1, 3, 2, true));
        Check.due("free in part, free in part already", 4, s.wall(3, 1, 5, 2, false));
        Check.due("the part before it still stands", 1, s.field(2, 2, 0));
    }

    private static void wallTouchesNothingBeside() {
        Check.about("Promise 3: if isWall, and a walker is ON one of them");
        StarlingSquare s = new StarlingSquare();
        s.walker(0, 1, 0, 4, 4);
        int[][] beside = {{3, 3, 5, 3}, {3, 5, 5, 5}, {3, 3, 3, 5}, {5, 3, 5, 5}};
        int[] due = {3, 6, 7, 8};
        for (int i = 0; i < 4; i++) {
            int[] b = beside[i];
            Check.due("all round a walker", due[i], s.wall(b[0], b[1], b[2], b[3], true));
        }
        Check.due("it is walled in", 8, s.wall(4, 4, 4, 4, false));
        s.mark(0, 9, 7);
        Check.due("it has no way", NONE, s.ofWalker(0, 7));
    }

    private static void wallFreeOverWalkers() {
        Check.about("Promise 3: if isWall, and a walker is ON one of them");
        StarlingSquare s = new StarlingSquare();
        s.mark(0, 9, 0);
        s.walker(0, 1, 0, 8, 0);
        s.wall(0, 1, 9, 1, true);
        Check.due("all are free, walkers or not", 0, s.wall(0, 0, 9, 7, false));
        Check.due("the walker is there", 0, s.field(8, 0, 1));
        s.tick(1);
        Check.due("who is out is on none", 2, s.wall(8, 0, 9, 0, true));
    }

    private static void markAndNotAnyMore() {
        Check.about("Promise 4: MARKS a FIELD, or, if it is MARKED for it, does not any more");
        StarlingSquare s = new StarlingSquare();
        for (int round = 0; round < 3; round++) {
            Check.due("marked", 1, s.mark(2, 0, 0));
            Check.due("far", 0, s.far(2, 0, 0));
            Check.due("not any more", 0, s.mark(2, 0, 0));
            Check.due("not far", NONE, s.far(2, 0, 0));
        }
        s.mark(2, 0, 0);
        s.mark(1, 0, 0);
        Check.due("two for goal 2", 2, s.mark(2, 9, 7));
        Check.due("one for goal 1", 0, s.mark(1, 0, 0));
    }

    private static void markOfAllFields() {
        Check.about("Promise 4: returns how many FIELDS are MARKED for it then");
        StarlingSquare s = new StarlingSquare();
        s.reset(14, 14);
        for (int number = 0; number < 196; number++) {
            Check.due("one more", number + 1, s.mark(3, number % 14, number / 14));
        }
        Check.due("all are there", 0, s.farthest(3));
        Check.stateRefused("nobody with that goal can come", s, () -> s.walker(3, 1, 0, 7, 7));
        for (int number = 195; number >= 0; number--) {
            Check.due("one less", number, s.mark(3, number % 14, number / 14));
        }
        Check.due("none is there", NONE, s.farthest(3));
    }

    private static void markInAWall() {
        Check.about("1: to one that is FREE and MARKED for it");
        StarlingSquare s = new StarlingSquare();
        s.wall(5, 5, 5, 5, true);
        Check.due("a wall is a field, too", 1, s.mark(0, 5, 5));
        Check.due("but not free", NONE, s.farthest(0));
        s.wall(5, 5, 5, 5, false);
        Check.due("now it is", 0, s.far(0, 5, 5));
        s.wall(5, 5, 5, 5, true);
        Check.due("the mark can be taken away under it", 0, s.mark(0, 5, 5));
        s.wall(5, 5, 5, 5, false);
        Check.due("then it is none", NONE, s.far(0, 5, 5));
    }

    private static void markUnderOthers() {
        Check.about("Promise 4: if a walker with that GOAL is ON it");
        StarlingSquare s = new StarlingSquare();
        s.walker(0, 1, 0, 4, 4);
        Check.due("another goal", 1, s.mark(3, 4, 4));
        Check.due("and not any more", 0, s.mark(3, 4, 4));
        Check.stateRefused("its own", s, () -> s.mark(0, 4, 4));
        Check.due("that goal beside it", 1, s.mark(0, 5, 4));
        s.tick(1);
        Check.due("it is out there", 1, s.many(1));
        Check.due("so it can be taken away", 0, s.mark(0, 5, 4));
        Check.due("and set where it was", 1, s.mark(0, 4, 4));
    }

    private static void setReturnsDrawBefore() {
        Check.about("Promise 5: returns DRAW before");
        StarlingSquare s = new StarlingSquare();
        Check.due("at first", 2, s.set(0, 20));
        for (int draw = 1; draw <= 9; draw++) {
            Check.due("the one before", draw - 1, s.set(draw, draw));
        }
        Check.argumentRefused("draw 10", s, () -> s.set(10, 5));
        Check.argumentRefused("jam 21, with a right draw", s, () -> s.set(0, 21));
        Check.argumentRefused("jam 0, with a right draw", s, () -> s.set(0, 0));
        Check.due("the last right one", 9, s.set(9, 9));
        s.walker(0, 1, 0, 0, 0);
        Check.due("and its JAM", 9, s.jamIn(60));
        Check.argumentRefused("draw -1, with a right jam", s, () -> s.set(-1, 1));
        Check.due("is the same", 9, s.jamIn(60));
    }

    private static void fieldOfNothingAndOfAll() {
        Check.about("Promise 6: 0 whether it is a WALL (1 or 0), 1 the walker who is ON it (NONE), 2 its HEAT");
        StarlingSquare s = new StarlingSquare();
        s.reset(2, 2);
        s.mark(0, 1, 1);
        s.wall(0, 1, 0, 1, true);
        s.walker(0, 1, 0, 0, 0);
        int[][] ahead = {{0, 0, 0, 0}, {0, NONE, 0, 1}, {1, NONE, 0, 1}, {0, NONE, 0, 1}};
        int[][] onTheWay = {{0, NONE, 0, 1}, {0, 0, 1, 0}, {1, NONE, 0, 1}, {0, NONE, 0, 1}};
        int[][] out = {{0, NONE, 0, 0}, {0, NONE, 1, 0}, {1, NONE, 0, 0}, {0, NONE, 1, 0}};
        checkFields("ahead", s, ahead);
        s.tick(1);
        checkFields("on the way", s, onTheWay);
        s.tick(1);
        checkFields("out", s, out);
    }

    private static void checkFields(String when, StarlingSquare s, int[][] due) {
        for (int number = 0; number < 4; number++) {
            for (int what = 0; what < 4; what++) {
                String name = "field " + number + ", " + what + " " + when;
                Check.due(name, due[number][what], s.field(number % 2, number / 2, what));
            }
        }
    }

    private static void fieldKeepsHeatUnderAWall() {
        Check.about("Promise 6: 2 its HEAT; promise 2 alone ends it");
        StarlingSquare s = new StarlingSquare();
        s.reset(4, 2);
        s.mark(0, 3, 0);
        s.walker(0, 1, 0, 0, 0);
        s.tick(3);
        Check.due("heat of a free field", 1, s.field(1, 0, 2));
        s.wall(1, 0, 1, 0, true);
        Check.due("heat of a wall", 1, s.field(1, 0, 2));
        Check.due("and first of all", 1, s.many(8));
        s.wall(1, 0, 1, 0, false);
        s.mark(0, 3, 0);
        Check.due("behind all that", 1, s.field(1, 0, 2));
    }

    private static void farthestOfNothingAndOfAll() {
        Check.about("Promise 8: the greatest number that a FIELD is FAR; NONE if all are NONE FAR");
        StarlingSquare s = new StarlingSquare();
        s.reset(2, 2);
        Check.due("nothing is marked", NONE, s.farthest(0));
        s.mark(0, 0, 0);
        Check.due("over the corner", 2, s.farthest(0));
        s.wall(1, 1, 1, 1, true);
        Check.due("without the farthest", 1, s.farthest(0));
        s.wall(0, 1, 0, 1, true);
        s.wall(1, 0, 1, 0, true);
        Check.due("itself alone", 0, s.farthest(0));
        s.wall(0, 0, 0, 0, true);
        Check.due("all are walls", NONE, s.farthest(0));
        s.wall(1, 1, 1, 1, false);
        Check.due("one is free, but none far", NONE, s.farthest(0));
        Check.due("the other goals", NONE, s.farthest(3));
    }
}
