/** Each promise by itself: ordinary inputs, the edges that the document names, and wrong inputs. */
public final class PromisesTest {
    private static final int NONE = -1;
    private static final int STAY = 4;
    private static final int[] WRONG_GOALS = {-1, 4, Integer.MIN_VALUE, Integer.MAX_VALUE};

    private PromisesTest() {
    }

    public static void main(String[] args) {
        aNewObject();
        reset();
        wall();
        mark();
        markAndWalkers();
        set();
        setAtItsEdges();
        field();
        far();
        farthest();
        walker();
        walkerRefused();
        turnTo();
        tick();
        tickGivesWayToWhoWaited();
        tickLooksAtWhatWasAhead();
        tickWithPaces();
        outFieldIsOpenAgain();
        clock();
        many();
        manyOfJams();
        ofWalker();
        cost();
        costWithDraw();
        wants();
        way();
        jam();
        meanSteps();
        outIn();
        outWith();
        outBy();
        jamIn();
        farWith();
        digest();
        Check.end();
    }

    /** A row of h times 2 FIELDS, whose second line is a WALL: a corridor of w FIELDS. */
    private static StarlingSquare corridor(int w) {
        StarlingSquare s = new StarlingSquare();
        s.reset(w, 2);
        s.wall(0, 1, w - 1, 1, true);
        return s;
    }

    private static void aNewObject() {
        StarlingSquare s = new StarlingSquare();
        Check.due("clock of a new one", 0, s.clock());
        Check.due("walkers of a new one", 0, s.many(0));
        Check.due("last field of a new one", 0, s.field(9, 7, 0));
        Check.indexRefused("x 10 of a new one", s, () -> s.field(10, 0, 0));
        Check.indexRefused("y 8 of a new one", s, () -> s.field(0, 8, 0));
        Check.due("walls of a new one", 0, s.wall(0, 0, 9, 7, false));
        for (int goal = 0; goal < 4; goal++) {
            Check.due("nothing is marked", NONE, s.farthest(goal));
        }
        Check.due("DRAW is 2 at first", 2, s.set(2, 3));
    }

    private static void reset() {
        StarlingSquare s = new StarlingSquare();
        Check.due("reset(2, 14)", 28, s.reset(2, 14));
        Check.due("reset(14, 2)", 28, s.reset(14, 2));
        Check.due("reset(14, 14)", 196, s.reset(14, 14));
        Check.due("reset(3, 5)", 15, s.reset(3, 5));
        s.set(7, 1);
        s.mark(0, 0, 0);
        s.wall(2, 0, 2, 4, true);
        s.walker(0, 1, 0, 1, 0);
        s.walker(1, 1, 0, 0, 3);
        s.tick(3);
        Check.argumentRefused("reset(1, 5)", s, () -> s.reset(1, 5));
        Check.argumentRefused("reset(15, 5)", s, () -> s.reset(15, 5));
        Check.argumentRefused("reset(5, 1)", s, () -> s.reset(5, 1));
        Check.argumentRefused("reset(5, 15)", s, () -> s.reset(5, 15));
        Check.argumentRefused("reset(-3, -3)", s, () -> s.reset(-3, -3));
        Check.due("reset(3, 5) again", 15, s.reset(3, 5));
        Check.due("no clock", 0, s.clock());
        Check.due("no walkers", 0, s.many(0));
        Check.due("none out", 0, s.many(1));
        Check.due("no steps", 0, s.many(6));
        Check.due("no heat", 0, s.many(7));
        Check.due("no walls", 0, s.wall(0, 0, 0, 0, false));
        Check.due("no marks", NONE, s.farthest(0));
        Check.due("the mark is gone", 1, s.mark(0, 1, 1));
        Check.due("nobody is on it", NONE, s.field(0, 3, 1));
        Check.due("numbers begin again", 0, s.walker(0, 1, 0, 0, 0));
        Check.due("it walked no steps", 0, s.ofWalker(0, 6));
        Check.due("it went in no side", STAY, s.ofWalker(0, 4));
        Check.due("it did not wait", 0, s.ofWalker(0, 5));
        Check.due("it was not out", NONE, s.ofWalker(0, 8));
        Check.due("DRAW stays", 7, s.set(2, 1));
        s.reset(4, 4);
        s.walker(3, 1, 0, 2, 3);
        s.tick(1);
        Check.due("JAM stays", 1, s.many(4));
    }

    private static void wall() {
        StarlingSquare s = new StarlingSquare();
        Check.due("one wall", 1, s.wall(0, 0, 0, 0, true));
        Check.due("the same again", 1, s.wall(0, 0, 0, 0, true));
        Check.due("a rectangle", 7, s.wall(2, 1, 4, 2, true));
        Check.due("corners from the right below", 9, s.wall(9, 7, 9, 6, true));
        Check.due("corners crosswise", 13, s.wall(6, 7, 7, 6, true));
        Check.due("left upper part of it", 1, s.field(6, 6, 0));
        Check.due("not beside it", 0, s.field(5, 6, 0));
        Check.due("free in part", 11, s.wall(3, 2, 3, 0, false));
        Check.due("free now", 0, s.field(3, 1, 0));
        Check.due("still a wall", 1, s.field(4, 1, 0));
        Check.indexRefused("x 10", s, () -> s.wall(10, 0, 0, 0, true));
        Check.indexRefused("x -1", s, () -> s.wall(-1, 0, 0, 0, true));
        Check.indexRefused("y 8", s, () -> s.wall(0, 8, 0, 0, false));
        Check.indexRefused("y -1", s, () -> s.wall(0, -1, 0, 0, false));
        Check.indexRefused("toX 10", s, () -> s.wall(0, 0, 10, 0, true));
        Check.indexRefused("toX -1", s, () -> s.wall(0, 0, -1, 0, true));
        Check.indexRefused("toY 8", s, () -> s.wall(0, 0, 0, 8, true));
        Check.indexRefused("toY -1", s, () -> s.wall(0, 0, 0, Integer.MIN_VALUE, true));
        s.walker(2, 1, 0, 8, 3);
        Check.stateRefused("over a walker", s, () -> s.wall(9, 4, 7, 2, true));
        Check.stateRefused("on a walker alone", s, () -> s.wall(8, 3, 8, 3, true));
        Check.stateRefused("with a walker in the last corner", s, () -> s.wall(7, 2, 8, 3, true));
        Check.due("nothing is built then", 0, s.field(7, 2, 0));
        Check.indexRefused("no such field first", s, () -> s.wall(8, 3, 8, 8, true));
        Check.due("free under a walker", 11, s.wall(8, 3, 8, 3, false));
        Check.due("beside the walker", 13, s.wall(7, 2, 7, 3, true));
        Check.due("all free", 0, s.wall(9, 7, 0, 0, false));
        s.mark(0, 0, 0);
        s.wall(0, 0, 0, 0, true);
        Check.due("a mark in a wall does not count", NONE, s.far(0, 1, 0));
        s.wall(0, 0, 0, 0, false);
        Check.due("but stays", 1, s.far(0, 1, 0));
    }

    private static void mark() {
        StarlingSquare s = new StarlingSquare();
        Check.due("first mark", 1, s.mark(0, 0, 0));
        Check.due("second mark", 2, s.mark(0, 9, 7));
        Check.due("of another goal", 1, s.mark(3, 9, 7));
        Check.due("the mark is taken away", 1, s.mark(0, 0, 0));
        Check.due("and the other", 0, s.mark(0, 9, 7));
        Check.due("the other goal has its own", 2, s.mark(3, 5, 5));
        s.wall(1, 1, 1, 1, true);
        Check.due("a wall can be marked", 3, s.mark(3, 1, 1));
        Check.due("but it is not far", NONE, s.far(3, 1, 1));
        for (int goal : WRONG_GOALS) {
            Check.indexRefused("goal " + goal, s, () -> s.mark(goal, 0, 0));
        }
        Check.indexRefused("x 10", s, () -> s.mark(0, 10, 0));
        Check.indexRefused("x -1", s, () -> s.mark(0, -1, 0));
        Check.indexRefused("y 8", s, () -> s.mark(0, 0, 8));
        Check.indexRefused("y -1", s, () -> s.mark(0, 0, -1));
    }

    private static void markAndWalkers() {
        StarlingSquare s = new StarlingSquare();
        s.walker(1, 1, 0, 4, 4);
        Check.stateRefused("a walker with that goal", s, () -> s.mark(1, 4, 4));
        Check.due("a walker with another one", 1, s.mark(0, 4, 4));
        Check.stateRefused("it can't turn to it", s, () -> s.turnTo(0, 0, 0));
        s.turnTo(0, 2, 0);
        Check.due("it has turned away", 1, s.mark(1, 4, 4));
        Check.due("not any more", 0, s.mark(0, 4, 4));
        Check.stateRefused("its new goal", s, () -> s.mark(2, 4, 4));
        Check.due("where nobody is", 1, s.mark(2, 4, 5));
        s.tick(1);
        Check.due("it is out", 1, s.many(1));
        Check.due("who is out is on none", 0, s.mark(2, 4, 5));
        Check.due("so it can be marked again", 1, s.mark(2, 4, 5));
    }

    private static void set() {
        StarlingSquare s = new StarlingSquare();
        Check.due("DRAW at first", 2, s.set(0, 1));
        Check.due("DRAW then", 0, s.set(9, 20));
        Check.due("DRAW as set last", 9, s.set(3, 3));
        Check.argumentRefused("draw -1", s, () -> s.set(-1, 3));
        Check.argumentRefused("draw 10", s, () -> s.set(10, 3));
        Check.argumentRefused("jam 0", s, () -> s.set(3, 0));
        Check.argumentRefused("jam 21", s, () -> s.set(3, 21));
        Check.due("wrong ones change nothing", 3, s.set(2, 3));
    }

    private static void setAtItsEdges() {
        StarlingSquare s = new StarlingSquare();
        s.walker(0, 1, 0, 4, 4);
        s.tick(2);
        Check.due("JAM is 3 at first: not behind 2", 0, s.many(3));
        s.tick(1);
        Check.due("but behind 3", 1, s.many(3));
        s.set(2, 4);
        Check.due("JAM 4 ends it", 0, s.many(3));
        Check.argumentRefused("a wrong draw, and a jam", s, () -> s.set(10, 1));
        Check.due("that jam is not taken", 0, s.many(3));
        s.set(2, 20);
        s.tick(16);
        Check.due("19 of 20", 0, s.many(3));
        s.tick(1);
        Check.due("20 of 20", 1, s.many(3));
    }

    private static void field() {
        StarlingSquare s = new StarlingSquare();
        s.wall(1, 0, 1, 0, true);
        s.walker(0, 1, 0, 4, 4);
        s.walker(0, 1, 0, 5, 5);
        s.walker(0, 1, 0, 0, 0);
        Check.due("a wall", 1, s.field(1, 0, 0));
        Check.due("free", 0, s.field(4, 4, 0));
        Check.due("who is on it", 1, s.field(5, 5, 1));
        Check.due("nobody is on it", NONE, s.field(1, 0, 1));
        Check.due("round a walker, without itself", 1, s.field(4, 4, 3));
        Check.due("round both", 2, s.field(5, 4, 3));
        Check.due("over a corner", 1, s.field(6, 6, 3));
        Check.due("two away", 0, s.field(7, 5, 3));
        Check.due("round a wall", 1, s.field(1, 0, 3));
        Check.due("not round the edge", 0, s.field(9, 0, 3));
        Check.due("not round the edge, a line on", 0, s.field(9, 1, 3));
        s.mark(0, 4, 3);
        Check.due("no heat yet", 0, s.field(4, 3, 2));
        s.tick(1);
        Check.due("heat of the goal counts", 1, s.field(4, 3, 2));
        Check.due("nobody is on it any more", NONE, s.field(4, 3, 1));
        Check.due("nor where it came from", NONE, s.field(4, 4, 1));
        Check.due("no heat where it came from", 0, s.field(4, 4, 2));
        s.wall(4, 3, 4, 3, true);
        Check.due("heat stays under a wall", 1, s.field(4, 3, 2));
        Check.indexRefused("x 10", s, () -> s.field(10, 0, 0));
        Check.indexRefused("y 8", s, () -> s.field(0, 8, 0));
        Check.indexRefused("x -1", s, () -> s.field(-1, 0, 9));
        Check.indexRefused("y -1", s, () -> s.field(0, -1, -1));
        Check.argumentRefused("what -1", s, () -> s.field(0, 0, -1));
        Check.argumentRefused("what 4", s, () -> s.field(0, 0, 4));
    }

    private static void far() {
        StarlingSquare s = new StarlingSquare();
        s.reset(4, 3);
        Check.due("nothing is marked", NONE, s.far(0, 0, 0));
        s.mark(0, 0, 0);
        Check.due("the mark itself", 0, s.far(0, 0, 0));
        Check.due("over corners there is no step", 2, s.far(0, 1, 1));
        Check.due("the other end", 5, s.far(0, 3, 2));
        s.wall(1, 0, 1, 1, true);
        Check.due("round the wall", 6, s.far(0, 2, 0));
        Check.due("a wall is none far", NONE, s.far(0, 1, 0));
        s.mark(0, 3, 0);
        Check.due("the nearer one counts", 1, s.far(0, 2, 0));
        Check.due("on both sides", 2, s.far(0, 0, 2));
        s.wall(1, 2, 1, 2, true);
        s.mark(0, 3, 0);
        Check.due("no way", NONE, s.far(0, 2, 0));
        Check.due("the near side", 2, s.far(0, 0, 2));
        s.walker(1, 1, 0, 0, 1);
        Check.due("walkers are not in the way", 2, s.far(0, 0, 2));
        s.wall(1, 2, 1, 2, false);
        Check.due("open again", 6, s.far(0, 2, 0));
        Check.due("no field on the other edge is beside", NONE, s.far(1, 0, 1));
        for (int goal : WRONG_GOALS) {
            Check.indexRefused("goal " + goal, s, () -> s.far(goal, 0, 0));
        }
        Check.indexRefused("x 4", s, () -> s.far(0, 4, 0));
        Check.indexRefused("x -1", s, () -> s.far(0, -1, 0));
        Check.indexRefused("y 3", s, () -> s.far(0, 0, 3));
        Check.indexRefused("y -1", s, () -> s.far(0, 0, -1));
    }

    private static void farthest() {
        StarlingSquare s = new StarlingSquare();
        Check.due("nothing is marked", NONE, s.farthest(2));
        s.mark(2, 0, 0);
        Check.due("of all fields", 16, s.farthest(2));
        s.wall(1, 0, 1, 7, true);
        Check.due("behind the wall is none", 7, s.farthest(2));
        s.wall(0, 1, 0, 7, true);
        Check.due("the mark alone", 0, s.farthest(2));
        s.wall(0, 0, 0, 0, true);
        Check.due("not even that", NONE, s.farthest(2));
        for (int goal : WRONG_GOALS) {
            Check.indexRefused("goal " + goal, s, () -> s.farthest(goal));
        }
    }

    private static void walker() {
        StarlingSquare s = new StarlingSquare();
        Check.due("the first", 0, s.walker(3, 3, 9, 9, 7));
        Check.due("the second", 1, s.walker(0, 1, 0, 0, 0));
        Check.due("its goal", 3, s.ofWalker(0, 0));
        Check.due("its pace", 3, s.ofWalker(0, 1));
        Check.due("its mood", 9, s.ofWalker(0, 2));
        Check.due("its field", 79, s.ofWalker(0, 3));
        Check.due("it is there", 0, s.field(9, 7, 1));
        s.mark(1, 5, 5);
        Check.due("on the mark of another goal", 2, s.walker(0, 1, 0, 5, 5));
        for (int i = 3; i < 24; i++) {
            Check.due("one more", i, s.walker(0, 1, 0, i % 10, 1 + i / 10));
        }
        Check.stateRefused("the 25th", s, () -> s.walker(0, 1, 0, 9, 0));
        Check.indexRefused("the 25th, of no goal", s, () -> s.walker(4, 1, 0, 9, 0));
        Check.argumentRefused("the 25th, without pace", s, () -> s.walker(0, 0, 0, 9, 0));
        s.mark(0, 0, 1);
        s.tick(1);
        Check.due("one is out", 1, s.many(1));
        Check.stateRefused("24 ever, though one is out", s, () -> s.walker(1, 1, 0, 9, 0));
    }

    private static void walkerRefused() {
        StarlingSquare s = new StarlingSquare();
        s.wall(1, 1, 1, 1, true);
        s.mark(0, 2, 2);
        s.walker(0, 1, 0, 3, 3);
        for (int goal : WRONG_GOALS) {
            Check.indexRefused("goal " + goal, s, () -> s.walker(goal, 0, 0, 5, 5));
        }
        Check.indexRefused("x 10", s, () -> s.walker(0, 1, 10, 10, 0));
        Check.indexRefused("x -1", s, () -> s.walker(0, 1, 0, -1, 0));
        Check.indexRefused("y 8", s, () -> s.walker(0, 0, 0, 0, 8));
        Check.indexRefused("y -1", s, () -> s.walker(0, 1, 0, 0, -1));
        Check.argumentRefused("pace 0", s, () -> s.walker(0, 0, 0, 5, 5));
        Check.argumentRefused("pace 4", s, () -> s.walker(0, 4, 0, 5, 5));
        Check.argumentRefused("mood -1", s, () -> s.walker(0, 1, -1, 5, 5));
        Check.argumentRefused("mood 10, in a wall", s, () -> s.walker(0, 1, 10, 1, 1));
        Check.stateRefused("in a wall", s, () -> s.walker(0, 1, 0, 1, 1));
        Check.stateRefused("on its goal", s, () -> s.walker(0, 1, 0, 2, 2));
        Check.stateRefused("on a walker", s, () -> s.walker(1, 1, 0, 3, 3));
        Check.due("no number was used", 1, s.walker(1, 1, 0, 2, 2));
    }

    private static void turnTo() {
        StarlingSquare s = new StarlingSquare();
        s.mark(0, 0, 0);
        s.mark(1, 5, 0);
        s.walker(0, 2, 3, 2, 0);
        s.tick(3);
        Check.due("one step to its goal", 1, s.ofWalker(0, 3));
        Check.due("its goal before", 0, s.turnTo(0, 1, 9));
        Check.due("its goal", 1, s.ofWalker(0, 0));
        Check.due("its mood", 9, s.ofWalker(0, 2));
        Check.due("its pace stays", 2, s.ofWalker(0, 1));
        Check.due("its facing stays", 2, s.ofWalker(0, 4));
        Check.due("its steps stay", 1, s.ofWalker(0, 6));
        Check.due("how far it is now", 4, s.ofWalker(0, 7));
        Check.due("to the same goal", 1, s.turnTo(0, 1, 0));
        Check.indexRefused("no such walker", s, () -> s.turnTo(1, 0, 10));
        Check.indexRefused("walker -1", s, () -> s.turnTo(-1, 0, 0));
        for (int goal : WRONG_GOALS) {
            Check.indexRefused("goal " + goal, s, () -> s.turnTo(0, goal, 10));
        }
        Check.argumentRefused("mood -1", s, () -> s.turnTo(0, 0, -1));
        Check.argumentRefused("mood 10", s, () -> s.turnTo(0, 0, 10));
        s.mark(2, 1, 0);
        Check.argumentRefused("mood first", s, () -> s.turnTo(0, 2, 10));
        Check.stateRefused("on that goal's mark", s, () -> s.turnTo(0, 2, 0));
        s.turnTo(0, 0, 0);
        s.tick(1);
        Check.due("it is out", 1, s.many(1));
        Check.stateRefused("it is out", s, () -> s.turnTo(0, 3, 0));
        Check.argumentRefused("out, with a wrong mood", s, () -> s.turnTo(0, 3, 10));
        s.walker(3, 1, 0, 9, 7);
        s.tick(2);
        s.turnTo(1, 2, 0);
        Check.due("waited stays", 2, s.ofWalker(1, 5));
    }

    private static void tick() {
        StarlingSquare s = corridor(14);
        s.mark(0, 0, 0);
        s.walker(0, 1, 0, 3, 0);
        s.walker(0, 1, 0, 5, 0);
        Check.due("none out yet", 0, s.tick(2));
        Check.due("one, and not the one before", 1, s.tick(1));
        Check.due("none is left near", 0, s.tick(1));
        Check.due("the second, alone", 1, s.tick(1));
        Check.due("nobody is left", 0, s.tick(20));
        Check.due("all ticks went by", 25, s.clock());
        Check.argumentRefused("ticks 0", s, () -> s.tick(0));
        Check.argumentRefused("ticks 21", s, () -> s.tick(21));
        Check.argumentRefused("ticks -1", s, () -> s.tick(-1));
        s.reset(14, 2);
        s.mark(0, 0, 0);
        s.walker(0, 1, 0, 3, 0);
        s.walker(0, 1, 0, 0, 1);
        Check.due("two within one call", 2, s.tick(20));
    }

    private static void tickGivesWayToWhoWaited() {
        StarlingSquare s = new StarlingSquare();
        s.reset(3, 3);
        s.mark(0, 1, 1);
        s.walker(0, 1, 0, 0, 1);
        s.walker(0, 1, 0, 2, 1);
        s.tick(1);
        Check.due("of several the smallest number", 1, s.ofWalker(0, 8));
        Check.due("the other waited", 1, s.ofWalker(1, 5));
        Check.due("and went in no side", STAY, s.ofWalker(1, 4));
        Check.due("and is where it was", 5, s.ofWalker(1, 3));
        s.walker(0, 1, 0, 0, 1);
        s.tick(1);
        Check.due("the one that waited goes", 2, s.ofWalker(1, 8));
        s.reset(3, 3);
        s.mark(0, 1, 1);
        s.walker(0, 2, 0, 0, 1);
        s.walker(0, 1, 0, 1, 0);
        s.mark(0, 1, 1);
        s.tick(1);
        s.mark(0, 1, 1);
        s.tick(1);
        Check.due("a greater number that waited longer", 2, s.ofWalker(1, 8));
        Check.due("goes first", 1, s.ofWalker(0, 5));
        Check.due("and has waited 0 then", 0, s.ofWalker(1, 5));
    }

    private static void tickLooksAtWhatWasAhead() {
        StarlingSquare s = corridor(6);
        s.mark(0, 5, 0);
        s.mark(1, 0, 0);
        s.walker(0, 1, 0, 1, 0);
        s.walker(0, 1, 0, 2, 0);
        s.tick(1);
        Check.due("behind one that goes there is no room", 1, s.ofWalker(0, 3));
        Check.due("it waited", 1, s.ofWalker(0, 5));
        Check.due("the first one goes", 3, s.ofWalker(1, 3));
        s.tick(1);
        Check.due("then there is room", 2, s.ofWalker(0, 3));
        Check.due("and nothing was waited", 0, s.ofWalker(0, 5));
        s.reset(6, 2);
        s.wall(0, 1, 5, 1, true);
        s.mark(0, 5, 0);
        s.mark(1, 0, 0);
        s.walker(0, 1, 0, 2, 0);
        s.walker(1, 1, 0, 3, 0);
        s.tick(20);
        Check.due("two against each other stay", 20, s.ofWalker(0, 5));
        Check.due("both", 20, s.ofWalker(1, 5));
    }

    private static void tickWithPaces() {
        StarlingSquare s = new StarlingSquare();
        s.reset(14, 3);
        s.mark(0, 13, 1);
        s.walker(0, 1, 0, 0, 0);
        s.walker(0, 2, 0, 0, 1);
        s.walker(0, 3, 0, 0, 2);
        s.set(0, 3);
        s.tick(6);
        Check.due("pace 1", 6, s.ofWalker(0, 6));
        Check.due("pace 2", 3, s.ofWalker(1, 6));
        Check.due("pace 3", 2, s.ofWalker(2, 6));
        s.reset(4, 4);
        s.walker(0, 3, 0, 0, 0);
        s.tick(1);
        s.walker(0, 3, 0, 3, 3);
        s.tick(1);
        Check.due("waited only with a turn", 0, s.ofWalker(0, 5));
        s.tick(1);
        Check.due("the clock makes the turn", 1, s.ofWalker(0, 5));
        Check.due("also of who came later", 1, s.ofWalker(1, 5));
        s.tick(5);
        Check.due("two turns", 2, s.ofWalker(1, 5));
    }

    private static void outFieldIsOpenAgain() {
        StarlingSquare s = corridor(5);
        s.mark(0, 4, 0);
        s.walker(0, 1, 0, 3, 0);
        s.walker(0, 1, 0, 2, 0);
        Check.due("the first", 1, s.tick(1));
        Check.due("the field is open", NONE, s.field(4, 0, 1));
        Check.due("the second has moved up", 0, s.tick(1));
        Check.due("and goes out by the same field", 1, s.tick(1));
        Check.due("its heat is 2", 2, s.field(4, 0, 2));
    }

    private static void clock() {
        StarlingSquare s = new StarlingSquare();
        Check.due("at first", 0, s.clock());
        s.tick(1);
        Check.due("behind one", 1, s.clock());
        s.tick(20);
        Check.due("behind twenty more", 21, s.clock());
        s.outWith(60, 2);
        s.jamIn(60);
        s.outBy(0, 0, 60);
        Check.due("what would be is not counted", 21, s.clock());
    }

    private static void many() {
        StarlingSquare s = new StarlingSquare();
        s.mark(0, 3, 0);
        s.walker(0, 1, 0, 0, 0);
        s.walker(0, 1, 0, 3, 1);
        s.walker(1, 1, 0, 9, 7);
        Check.due("walkers ever", 3, s.many(0));
        Check.due("out", 0, s.many(1));
        Check.due("without a way", 1, s.many(2));
        Check.due("steps", 0, s.many(6));
        Check.due("greatest heat", 0, s.many(7));
        Check.due("the first with none", 0, s.many(8));
        s.tick(1);
        Check.due("heat 1 twice, the first", 1, s.many(8));
        s.tick(2);
        Check.due("walkers ever, with those out", 3, s.many(0));
        Check.due("both are out", 2, s.many(1));
        Check.due("out is not without a way", 1, s.many(2));
        Check.due("steps of all", 4, s.many(6));
        Check.due("greatest heat 2", 2, s.many(7));
        Check.due("the goal", 3, s.many(8));
        s.mark(0, 3, 0);
        Check.due("out needs no way", 1, s.many(2));
        s.mark(1, 0, 0);
        Check.due("all have a way", 0, s.many(2));
        s.tick(2);
        Check.due("steps on the way count", 6, s.many(6));
        Check.argumentRefused("what -1", s, () -> s.many(-1));
        Check.argumentRefused("what 9", s, () -> s.many(9));
    }

    private static void manyOfJams() {
        StarlingSquare s = new StarlingSquare();
        Check.due("no one", 0, s.many(3));
        Check.due("no jam", 0, s.many(4));
        Check.due("no greatest jam", 0, s.many(5));
        s.set(2, 1);
        s.walker(0, 1, 0, 0, 0);
        s.walker(0, 1, 0, 1, 1);
        s.walker(1, 1, 0, 9, 0);
        s.walker(0, 1, 0, 0, 1);
        s.walker(2, 1, 0, 9, 1);
        s.walker(0, 1, 0, 8, 2);
        s.walker(0, 3, 0, 8, 1);
        Check.due("nobody waited yet", 0, s.many(3));
        s.tick(2);
        Check.due("all but the slow one", 6, s.many(3));
        Check.due("three jams", 3, s.many(4));
        Check.due("the greatest", 3, s.many(5));
        s.tick(1);
        Check.due("the slow one, too", 7, s.many(3));
        Check.due("it joins two", 2, s.many(4));
        Check.due("a greater one", 4, s.many(5));
        s.mark(0, 5, 5);
        s.tick(1);
        Check.due("those without a goal, and the slow one between its turns", 3, s.many(3));
        Check.due("they are one jam", 1, s.many(4));
    }

    private static void ofWalker() {
        StarlingSquare s = new StarlingSquare();
        s.mark(2, 7, 1);
        s.walker(2, 2, 5, 4, 1);
        int[] atFirst = {2, 2, 5, 14, STAY, 0, 0, 3, NONE};
        int[] onTheWay = {2, 2, 5, 15, 0, 0, 1, 2, NONE};
        int[] out = {2, 2, 5, NONE, 0, 0, 3, 0, 6};
        checkWalker("at first", s, atFirst);
        s.tick(3);
        checkWalker("on the way", s, onTheWay);
        s.tick(10);
        checkWalker("out", s, out);
        s.mark(2, 7, 1);
        checkWalker("out, and no goal", s, out);
        s.walker(0, 1, 0, 0, 0);
        s.tick(3);
        Check.due("no way", NONE, s.ofWalker(1, 7));
        Check.due("it waits all the same", 3, s.ofWalker(1, 5));
        Check.indexRefused("no such walker", s, () -> s.ofWalker(2, 9));
        Check.indexRefused("walker -1", s, () -> s.ofWalker(-1, 0));
        Check.indexRefused("walker 24", s, () -> s.ofWalker(24, 0));
        Check.argumentRefused("what -1", s, () -> s.ofWalker(0, -1));
        Check.argumentRefused("what 9", s, () -> s.ofWalker(0, 9));
    }

    private static void checkWalker(String when, StarlingSquare s, int[] want) {
        for (int what = 0; what < want.length; what++) {
            Check.due("ofWalker " + what + " " + when, want[what], s.ofWalker(0, what));
        }
    }

    private static void cost() {
        StarlingSquare s = new StarlingSquare();
        s.mark(0, 0, 0);
        s.wall(4, 3, 4, 3, true);
        s.walker(0, 1, 7, 3, 3);
        s.walker(1, 1, 0, 3, 4);
        s.walker(1, 1, 0, 1, 2);
        s.walker(1, 1, 0, 1, 4);
        Check.due("a wall", 10000, s.cost(0, 0));
        Check.due("a walker", 10000, s.cost(0, 1));
        Check.due("to the left: 50 and three others", 71, s.cost(0, 2));
        Check.due("up: 50 alone", 50, s.cost(0, 3));
        Check.due("to stay: 60 and one other", 67, s.cost(0, 4));
        Check.due("without a way", 10000, s.cost(1, 0));
        Check.due("without a way, to stay", 10000, s.cost(1, 4));
        s.walker(0, 1, 0, 9, 7);
        Check.due("over the edge", 10000, s.cost(4, 0));
        Check.due("under the edge", 10000, s.cost(4, 1));
        Check.due("far away", 150, s.cost(4, 3));
        Check.indexRefused("no such walker", s, () -> s.cost(5, 5));
        Check.indexRefused("walker -1", s, () -> s.cost(-1, 0));
        Check.argumentRefused("side -1", s, () -> s.cost(0, -1));
        Check.argumentRefused("side 5", s, () -> s.cost(0, 5));
        s.reset(3, 3);
        s.mark(0, 0, 0);
        s.walker(0, 1, 0, 1, 0);
        s.tick(1);
        Check.indexRefused("it is out", s, () -> s.cost(0, 0));
        Check.indexRefused("out, and a wrong side", s, () -> s.cost(0, 5));
    }

    private static void costWithDraw() {
        StarlingSquare s = new StarlingSquare();
        s.mark(0, 9, 3);
        s.mark(1, 0, 7);
        s.walker(0, 1, 0, 2, 3);
        s.walker(0, 1, 0, 2, 2);
        s.tick(1);
        s.walker(1, 1, 0, 4, 3);
        s.walker(1, 1, 0, 3, 4);
        Check.due("both went to the right", 0, s.ofWalker(0, 4) + s.ofWalker(1, 4));
        Check.due("DRAW 2 for each of two beside that face it", 10 * s.far(1, 5, 3) - 4, s.cost(2, 0));
        Check.due("nothing for another side", 10 * s.far(1, 4, 4), s.cost(2, 1));
        Check.due("nothing to stay", 10 * s.far(1, 4, 3), s.cost(2, 4));
        Check.due("only one does, not itself", 10 * s.far(0, 4, 2) - 2, s.cost(1, 0));
        s.set(9, 3);
        Check.due("DRAW 9", 10 * s.far(1, 5, 3) - 18, s.cost(2, 0));
        s.set(0, 3);
        Check.due("DRAW 0", 10 * s.far(1, 5, 3), s.cost(2, 0));
    }

    private static void wants() {
        StarlingSquare s = new StarlingSquare();
        s.mark(0, 5, 5);
        s.walker(0, 3, 0, 3, 3);
        Check.due("of two the smaller side", 0, s.wants(0));
        s.wall(4, 3, 4, 3, true);
        Check.due("round the wall", 1, s.wants(0));
        s.wall(3, 4, 3, 4, true);
        Check.due("again the smaller side of two", 2, s.wants(0));
        s.walker(1, 1, 0, 9, 0);
        Check.due("nothing can be wanted", STAY, s.wants(1));
        s.reset(3, 3);
        s.mark(0, 0, 0);
        s.walker(0, 1, 5, 2, 1);
        s.walker(1, 1, 0, 2, 2);
        s.walker(1, 1, 0, 1, 2);
        Check.due("side 3 is less crowded than side 2", 3, s.wants(0));
        s.turnTo(0, 0, 0);
        Check.due("without mood the smaller side", 2, s.wants(0));
        Check.indexRefused("no such walker", s, () -> s.wants(3));
        Check.indexRefused("walker -1", s, () -> s.wants(-1));
        s.tick(3);
        Check.due("it is out", NONE, s.ofWalker(0, 3));
        Check.indexRefused("it is out", s, () -> s.wants(0));
        wantsToStayLast();
    }

    /** A SIDE that costs as much as to stay is taken; one that costs more is not. */
    private static void wantsToStayLast() {
        StarlingSquare s = corridor(6);
        s.mark(0, 0, 0);
        s.walker(0, 1, 5, 2, 0);
        s.walker(1, 1, 0, 3, 0);
        Check.due("forward, away from the other", 2, s.wants(0));
        StarlingSquare t = new StarlingSquare();
        t.reset(5, 3);
        t.mark(0, 0, 1);
        t.wall(0, 0, 1, 0, true);
        t.wall(0, 2, 1, 2, true);
        t.walker(0, 1, 5, 3, 1);
        t.walker(1, 1, 0, 1, 1);
        Check.due("to the left 20 and 5", 25, t.cost(0, 2));
        Check.due("to stay 30", 30, t.cost(0, 4));
        t.turnTo(0, 0, 9);
        t.walker(1, 1, 0, 4, 1);
        t.turnTo(0, 0, 5);
        Check.due("20 and 5 to the left again", 25, t.cost(0, 2));
        Check.due("to stay 30 and 5", 35, t.cost(0, 4));
        StarlingSquare u = corridor(7);
        u.mark(0, 0, 0);
        u.wall(2, 1, 2, 1, false);
        u.wall(1, 1, 1, 1, false);
        u.walker(0, 1, 5, 3, 0);
        u.walker(1, 1, 0, 1, 0);
        u.walker(1, 1, 0, 1, 1);
        Check.due("20 and 10 to the left", 30, u.cost(0, 2));
        Check.due("30 to stay", 30, u.cost(0, 4));
        Check.due("to stay is last", 2, u.wants(0));
        u.turnTo(0, 0, 6);
        Check.due("20 and 12 are more", STAY, u.wants(0));
    }

    private static void way() {
        StarlingSquare s = new StarlingSquare();
        s.mark(0, 2, 2);
        s.walker(0, 1, 0, 0, 0);
        s.walker(1, 1, 0, 1, 0);
        Check.due("0 steps", 0, s.way(0, 0));
        Check.due("others are not in the way", 1, s.way(0, 1));
        Check.due("right first", 2, s.way(0, 2));
        Check.due("then down", 12, s.way(0, 3));
        Check.due("the goal", 22, s.way(0, 4));
        Check.due("not so many", NONE, s.way(0, 5));
        Check.due("by far not so many", NONE, s.way(0, Integer.MAX_VALUE));
        Check.due("no way", NONE, s.way(1, 0));
        Check.due("no way, one step", NONE, s.way(1, 1));
        s.wall(2, 0, 2, 1, true);
        Check.due("round the wall", 11, s.way(0, 2));
        Check.due("down there", 21, s.way(0, 3));
        Check.argumentRefused("k -1", s, () -> s.way(0, -1));
        Check.indexRefused("no such walker", s, () -> s.way(2, -1));
        Check.indexRefused("walker -1", s, () -> s.way(-1, 0));
        s.wall(2, 2, 2, 2, true);
        Check.due("no way any more, 0 steps", NONE, s.way(0, 0));
        s.wall(2, 2, 2, 2, false);
        s.turnTo(1, 0, 0);
        s.tick(20);
        Check.due("both are out", 2, s.many(1));
        Check.indexRefused("it is out", s, () -> s.way(0, 0));
        Check.indexRefused("out, and k -1", s, () -> s.way(0, -1));
    }

    private static void jam() {
        StarlingSquare s = new StarlingSquare();
        s.walker(0, 1, 0, 0, 0);
        s.walker(0, 1, 0, 1, 0);
        s.walker(0, 1, 0, 2, 1);
        s.walker(0, 3, 0, 2, 0);
        s.tick(2);
        Check.due("2 are not 3", 0, s.jam(0));
        s.tick(1);
        Check.due("two beside each other", 2, s.jam(0));
        Check.due("over a corner is not beside", 1, s.jam(2));
        Check.due("who waited once is in none", 0, s.jam(3));
        s.tick(6);
        Check.due("it joins all", 4, s.jam(0));
        Check.due("and is in it", 4, s.jam(3));
        s.mark(1, 2, 2);
        s.turnTo(2, 1, 0);
        s.tick(1);
        Check.due("out is in none", 0, s.jam(2));
        Check.due("without it", 3, s.jam(0));
        Check.indexRefused("no such walker", s, () -> s.jam(4));
        Check.indexRefused("walker -1", s, () -> s.jam(-1));
        Check.indexRefused("walker 24", s, () -> s.jam(24));
    }

    private static void meanSteps() {
        StarlingSquare s = new StarlingSquare();
        Check.dueMean("without any", 0.0, s.meanSteps());
        s.mark(0, 0, 0);
        s.walker(0, 1, 0, 0, 1);
        s.walker(0, 1, 0, 6, 0);
        Check.dueMean("none is out", 0.0, s.meanSteps());
        s.tick(2);
        Check.dueMean("only those that are out", 1.0, s.meanSteps());
        s.walker(0, 1, 0, 0, 1);
        s.tick(1);
        Check.dueMean("one and one", 1.0, s.meanSteps());
        s.tick(10);
        Check.dueMean("not cut", (1 + 1 + 6) / 3.0, s.meanSteps());
    }

    private static void outIn() {
        StarlingSquare s = corridor(14);
        s.mark(0, 0, 0);
        s.walker(0, 1, 0, 5, 0);
        s.walker(0, 2, 0, 12, 0);
        s.walker(1, 1, 0, 13, 0);
        long before = s.digest();
        Check.due("just within", 5, s.outIn(0, 5));
        Check.due("not within", NONE, s.outIn(0, 4));
        Check.due("long within", 5, s.outIn(0, 60));
        Check.due("pace 2", 24, s.outIn(1, 60));
        Check.due("no way", NONE, s.outIn(2, 60));
        Check.due("as many as there are ticks to the last", 24, s.outIn(1, 24));
        Check.due("nothing is changed", before, s.digest());
        s.tick(5);
        Check.due("it is out", 0, s.outIn(0, 1));
        Check.due("pace 2, later", 19, s.outIn(1, 60));
        Check.indexRefused("no such walker", s, () -> s.outIn(3, 0));
        Check.indexRefused("walker -1", s, () -> s.outIn(-1, 5));
        Check.argumentRefused("ticks 0, though it is out", s, () -> s.outIn(0, 0));
        Check.argumentRefused("ticks 61", s, () -> s.outIn(1, 61));
        Check.argumentRefused("ticks -1", s, () -> s.outIn(1, -1));
    }

    private static void outWith() {
        StarlingSquare s = corridor(10);
        s.mark(0, 0, 0);
        s.walker(0, 1, 0, 1, 0);
        s.walker(0, 1, 0, 4, 0);
        s.tick(1);
        long before = s.digest();
        Check.due("those that are out now count", 1, s.outWith(1, 2));
        Check.due("one more behind three", 2, s.outWith(3, 2));
        Check.due("not behind two", 1, s.outWith(2, 9));
        Check.due("60 is fine", 2, s.outWith(60, 0));
        Check.due("nothing is changed", before, s.digest());
        Check.due("nor DRAW", 2, s.set(2, 3));
        Check.argumentRefused("ticks 0", s, () -> s.outWith(0, 0));
        Check.argumentRefused("ticks 61", s, () -> s.outWith(61, 0));
        Check.argumentRefused("draw -1", s, () -> s.outWith(1, -1));
        Check.argumentRefused("draw 10", s, () -> s.outWith(1, 10));
        outWithOtherDraw();
    }

    /** A walker that is nearer to its goal by going up is drawn to the right by three others. */
    private static void outWithOtherDraw() {
        StarlingSquare s = new StarlingSquare();
        s.mark(0, 9, 3);
        s.mark(1, 3, 0);
        s.walker(0, 1, 0, 2, 3);
        s.walker(0, 1, 0, 2, 4);
        s.walker(0, 1, 0, 4, 4);
        s.tick(1);
        s.walker(1, 1, 0, 4, 3);
        Check.due("it is 4 far", 4, s.ofWalker(3, 7));
        Check.due("without DRAW it is out behind 4", 1, s.outWith(4, 0));
        Check.due("with DRAW 9 it goes aside", 0, s.outWith(4, 9));
        Check.due("as it is", 1, s.outWith(4, 2));
    }

    private static void outBy() {
        StarlingSquare s = new StarlingSquare();
        s.reset(9, 3);
        s.mark(0, 8, 1);
        s.wall(4, 0, 4, 2, true);
        s.wall(4, 1, 4, 1, false);
        s.walker(0, 1, 0, 3, 1);
        s.walker(0, 1, 0, 0, 0);
        long before = s.digest();
        Check.due("the gate is shut", -1, s.outBy(4, 1, 8));
        Check.due("both would not be out", -2, s.outBy(4, 1, 60));
        Check.due("not so far yet", 0, s.outBy(4, 1, 4));
        Check.due("another gate is no gain", 0, s.outBy(4, 0, 60));
        Check.due("nothing is changed", before, s.digest());
        s.wall(4, 1, 4, 1, true);
        Check.due("the gate is opened", 2, s.outBy(4, 1, 60));
        Check.due("for one", 1, s.outBy(4, 1, 5));
        Check.due("the wall still stands", 1, s.field(4, 1, 0));
        Check.indexRefused("x 9", s, () -> s.outBy(9, 0, 0));
        Check.indexRefused("x -1", s, () -> s.outBy(-1, 0, 5));
        Check.indexRefused("y 3", s, () -> s.outBy(0, 3, 5));
        Check.indexRefused("y -1", s, () -> s.outBy(0, -1, 5));
        Check.argumentRefused("ticks 0", s, () -> s.outBy(5, 0, 0));
        Check.argumentRefused("ticks 61, on a walker", s, () -> s.outBy(3, 1, 61));
        Check.stateRefused("on a walker", s, () -> s.outBy(3, 1, 5));
        s.wall(4, 1, 4, 1, false);
        s.tick(6);
        Check.due("one is out", 1, s.many(1));
        Check.due("both are behind the gate", 0, s.outBy(4, 1, 60));
        Check.due("a goal in a wall, but who is out stays out", -1, s.outBy(8, 1, 60));
    }

    private static void jamIn() {
        StarlingSquare s = new StarlingSquare();
        Check.due("no walkers", NONE, s.jamIn(60));
        s.walker(0, 2, 0, 0, 0);
        long before = s.digest();
        Check.due("three turns of pace 2", 6, s.jamIn(60));
        Check.due("just within", 6, s.jamIn(6));
        Check.due("not within", NONE, s.jamIn(5));
        Check.due("nothing is changed", before, s.digest());
        s.tick(6);
        Check.due("there is one", 0, s.jamIn(1));
        s.set(2, 20);
        Check.due("JAM 20", 34, s.jamIn(60));
        Check.argumentRefused("ticks 0, though there is one", s, () -> s.jamIn(0));
        Check.argumentRefused("ticks 61", s, () -> s.jamIn(61));
        Check.argumentRefused("ticks -5", s, () -> s.jamIn(-5));
        s.reset(4, 4);
        s.set(2, 1);
        s.mark(0, 3, 3);
        s.walker(0, 1, 0, 0, 0);
        Check.due("who is out is in none", NONE, s.jamIn(60));
    }

    private static void farWith() {
        StarlingSquare s = new StarlingSquare();
        s.reset(5, 2);
        s.mark(0, 0, 0);
        s.wall(1, 1, 1, 1, true);
        long before = s.digest();
        Check.due("a wall that cuts off all but two", 6, s.farWith(0, 1, 0));
        Check.due("a wall that nothing needs", 0, s.farWith(0, 0, 1));
        Check.due("the mark itself becomes a wall", 8, s.farWith(0, 0, 0));
        Check.due("open: nothing is nearer", 0, s.farWith(0, 1, 1));
        Check.due("a wall in the corner", 0, s.farWith(0, 4, 1));
        Check.due("a wall behind the gate", 5, s.farWith(0, 2, 0));
        Check.due("one has to go round", 1, s.farWith(0, 3, 0));
        Check.due("a goal without marks", 0, s.farWith(3, 1, 0));
        Check.due("nothing is changed", before, s.digest());
        s.wall(1, 0, 1, 0, true);
        Check.due("open: all can be reached", 6, s.farWith(0, 1, 0));
        s.walker(1, 1, 0, 2, 0);
        Check.due("walkers are not looked at", 0, s.farWith(0, 2, 0));
        s.wall(1, 0, 1, 0, false);
        Check.due("nor if it matters", 5, s.farWith(0, 2, 0));
        for (int goal : WRONG_GOALS) {
            Check.indexRefused("goal " + goal, s, () -> s.farWith(goal, 0, 0));
        }
        Check.indexRefused("x 5", s, () -> s.farWith(0, 5, 0));
        Check.indexRefused("x -1", s, () -> s.farWith(0, -1, 0));
        Check.indexRefused("y 2", s, () -> s.farWith(0, 0, 2));
        Check.indexRefused("y -1", s, () -> s.farWith(0, 0, -1));
    }

    /** What the digest should be, put together from the other calls as the document says. */
    private static long digestByCalls(StarlingSquare s, int w, int h) {
        long d = 967 * 31L + s.clock();
        for (int what = 0; what <= 8; what++) {
            d = d * 31 + s.many(what);
        }
        for (int goal = 0; goal < 4; goal++) {
            d = d * 31 + s.farthest(goal);
        }
        for (int walker = 0; walker < s.many(0); walker++) {
            for (int what = 0; what <= 8; what++) {
                d = d * 31 + s.ofWalker(walker, what);
            }
            d = d * 31 + s.jam(walker);
            for (int side = 0; side <= 4 && s.ofWalker(walker, 3) != NONE; side++) {
                d = d * 31 + s.cost(walker, side);
            }
        }
        for (int number = 0; number < w * h; number++) {
            for (int what = 0; what <= 2; what++) {
                d = d * 31 + s.field(number % w, number / w, what);
            }
            for (int goal = 0; goal < 4; goal++) {
                d = d * 31 + s.far(goal, number % w, number / w);
            }
        }
        return d;
    }

    private static void digest() {
        StarlingSquare s = new StarlingSquare();
        Check.due("a new one", -5408408196727448505L, s.digest());
        Check.due("a new one by its calls", digestByCalls(s, 10, 8), s.digest());
        s.reset(6, 5);
        s.set(4, 1);
        s.mark(0, 5, 0);
        s.mark(1, 0, 4);
        s.wall(2, 2, 3, 2, true);
        s.walker(0, 1, 3, 0, 0);
        s.walker(1, 2, 9, 4, 4);
        s.walker(0, 1, 0, 4, 0);
        s.walker(3, 1, 0, 5, 4);
        s.walker(3, 1, 0, 5, 3);
        for (int t = 0; t < 8; t++) {
            Check.due("behind " + t, digestByCalls(s, 6, 5), s.digest());
            s.tick(1);
        }
    }
}
