/** What the document says of the edges of promises 9 and 10, and 13 to 19. */
public final class WalkerEdgesTest {
    private static final int NONE = -1;
    private static final int STAY = 4;
    private static final int CAN_NOT = 10000;

    private WalkerEdgesTest() {
    }

    public static void main(String[] args) {
        walkersAreNumberedFrom0To23();
        whoIsOutIsStillOneOf24();
        aRefusedWalkerHasNoNumber();
        aWalkerIsAsItCame();
        aNewWalkerDidNothingYet();
        aFieldThatIsOpenAgain();
        turnToReturnsTheGoalBefore();
        turnToChangesGoalAndMoodAlone();
        turnToOnMarks();
        manyOfNothing();
        manyThatAreNoneFar();
        manyThatAreNoneFarInPart();
        manyInJamsOfSeveralSizes();
        manySteps();
        manyFirstWithTheGreatestHeat();
        manyHeatInTheLastField();
        ofWalkerThatIsOut();
        ofWalkerThatIsNoneFar();
        ofWalkerOutWithTheClock();
        costOfWhatCanNotBeWanted();
        costAsItIsNow();
        wantsIfItWasItsTurn();
        wantsNothing();
        wayOfNoStepAndOfAll();
        wayIfItWasAlone();
        wayInTheFirstSide();
        wayWithoutAWay();
        jamOfNobody();
        jamOfEach();
        meanWithoutAny();
        meanNotCut();
        Check.end();
    }

    /** A corridor of w FIELDS, in the first row; the second one is a WALL. */
    private static StarlingSquare corridor(int w) {
        StarlingSquare s = new StarlingSquare();
        s.reset(w, 2);
        s.wall(0, 1, w - 1, 1, true);
        return s;
    }

    private static void checkWalker(String when, StarlingSquare s, int walker, int... due) {
        for (int what = 0; what < due.length; what++) {
            Check.due("ofWalker " + what + " " + when, due[what], s.ofWalker(walker, what));
        }
    }

    private static void checkMany(String when, StarlingSquare s, int... due) {
        for (int what = 0; what < due.length; what++) {
            Check.due("many " + what + " " + when, due[what], s.many(what));
        }
    }

    private static void walkersAreNumberedFrom0To23() {
        Check.about("2: At most 24 ever, numbered from 0; promise 9: returns its number");
        StarlingSquare s = new StarlingSquare();
        s.reset(14, 2);
        for (int i = 0; i < 24; i++) {
            int x = i % 14;
            int y = i / 14;
            Check.indexRefused("walker " + i + " is none yet", s, () -> s.ofWalker(s.many(0), 0));
            Check.due("its number", i, s.walker(i % 4, 1, 0, x, y));
            Check.due("it is there", i, s.field(x, y, 1));
            Check.due("so many came", i + 1, s.many(0));
        }
        Check.stateRefused("the 25th", s, () -> s.walker(0, 1, 0, 13, 1));
        Check.due("nobody came", NONE, s.field(13, 1, 1));
        Check.due("24 are there", 24, s.many(0));
    }

    private static void whoIsOutIsStillOneOf24() {
        Check.about("Promise 9: if there were 24");
        StarlingSquare s = new StarlingSquare();
        s.mark(0, 0, 0);
        for (int i = 0; i < 24; i++) {
            Check.due("by one gate", i, s.walker(0, 1, 0, 1, 0));
            Check.due("it is out", 1, s.tick(1));
        }
        Check.stateRefused("all are out, but there were 24", s, () -> s.walker(0, 1, 0, 1, 0));
        Check.due("24 are out", 24, s.many(1));
        s.reset(10, 8);
        Check.due("behind reset there were none", 0, s.walker(0, 1, 0, 1, 0));
    }

    private static void aRefusedWalkerHasNoNumber() {
        Check.about("Terms: A method that throws an exception changes nothing");
        StarlingSquare s = new StarlingSquare();
        s.walker(0, 1, 0, 0, 0);
        Check.stateRefused("on another one", s, () -> s.walker(1, 1, 0, 0, 0));
        Check.argumentRefused("without pace", s, () -> s.walker(1, 0, 0, 1, 0));
        Check.indexRefused("nowhere", s, () -> s.walker(1, 1, 0, 10, 0));
        Check.due("the second", 1, s.walker(1, 1, 0, 1, 0));
    }

    private static void aWalkerIsAsItCame() {
        Check.about("2: each with a GOAL, a PACE, 1 to 3, and a MOOD, 0 to 9");
        StarlingSquare s = new StarlingSquare();
        for (int i = 0; i < 24; i++) {
            s.walker(i % 4, 1 + i % 3, i % 10, i % 10, i / 10);
        }
        for (int i = 0; i < 24; i++) {
            Check.due("goal of " + i, i % 4, s.ofWalker(i, 0));
            Check.due("pace of " + i, 1 + i % 3, s.ofWalker(i, 1));
            Check.due("mood of " + i, i % 10, s.ofWalker(i, 2));
        }
    }

    private static void aNewWalkerDidNothingYet() {
        Check.about("Promise 9: lets a walker come");
        StarlingSquare s = corridor(5);
        s.mark(0, 4, 0);
        s.walker(0, 1, 0, 0, 0);
        s.tick(4);
        Check.due("heat where it comes", 1, s.field(2, 0, 2));
        s.walker(0, 3, 9, 2, 0);
        checkWalker("of a new one", s, 1, 0, 3, 9, 2, STAY, 0, 0, 2, NONE);
        Check.due("to come is no heat", 1, s.field(2, 0, 2));
        Check.due("and no step", 4, s.many(6));
    }

    private static void aFieldThatIsOpenAgain() {
        Check.about("Promise 9: the FIELD is a WALL, or MARKED for that GOAL, or a walker is ON it");
        StarlingSquare s = corridor(6);
        s.mark(0, 3, 0);
        s.mark(0, 5, 0);
        s.walker(0, 1, 0, 4, 0);
        Check.stateRefused("marked for that goal", s, () -> s.walker(0, 1, 0, 3, 0));
        Check.due("for another goal", 1, s.walker(1, 1, 0, 3, 0));
        Check.stateRefused("a walker is on it", s, () -> s.walker(1, 1, 0, 4, 0));
        s.tick(1);
        Check.due("it is out", 0, s.ofWalker(0, 7));
        Check.due("nobody is on it now", 2, s.walker(1, 1, 0, 4, 0));
        Check.due("nor where it came out", 3, s.walker(1, 1, 0, 5, 0));
        Check.stateRefused("a wall", s, () -> s.walker(1, 1, 0, 0, 1));
        s.wall(0, 1, 0, 1, false);
        Check.due("free", 4, s.walker(1, 1, 0, 0, 1));
        Check.stateRefused("now a walker is on it", s, () -> s.walker(1, 1, 0, 0, 1));
    }

    private static void turnToReturnsTheGoalBefore() {
        Check.about("Promise 10: returns its GOAL before");
        StarlingSquare s = new StarlingSquare();
        s.walker(0, 1, 0, 4, 4);
        int before = 0;
        for (int goal : new int[] {3, 3, 0, 1, 2, 0}) {
            Check.due("before goal " + goal, before, s.turnTo(0, goal, 9));
            Check.due("now", goal, s.ofWalker(0, 0));
            before = goal;
        }
    }

    private static void turnToChangesGoalAndMoodAlone() {
        Check.about("Promise 10: its GOAL from now on, its MOOD from now on");
        StarlingSquare s = corridor(8);
        s.mark(0, 7, 0);
        s.walker(0, 1, 3, 1, 0);
        s.walker(1, 1, 3, 4, 0);
        s.tick(5);
        checkWalker("ahead", s, 0, 0, 1, 3, 3, 0, 3, 2, 4, NONE);
        s.turnTo(0, 2, 0);
        checkWalker("without a way now", s, 0, 2, 1, 0, 3, 0, 3, 2, NONE, NONE);
        s.turnTo(0, 0, 9);
        checkWalker("with the same goal again", s, 0, 0, 1, 9, 3, 0, 3, 2, 4, NONE);
        checkWalker("another one", s, 1, 1, 1, 3, 4, STAY, 5, 0, NONE, NONE);
    }

    private static void turnToOnMarks() {
        Check.about("Promise 10: if it is OUT, or ON a FIELD that is MARKED for that GOAL");
        StarlingSquare s = corridor(5);
        s.mark(1, 1, 0);
        s.mark(2, 1, 0);
        s.walker(0, 1, 7, 1, 0);
        Check.stateRefused("on goal 1", s, () -> s.turnTo(0, 1, 0));
        Check.stateRefused("on goal 2", s, () -> s.turnTo(0, 2, 0));
        Check.due("its mood is as it was", 7, s.ofWalker(0, 2));
        Check.due("to goal 3", 0, s.turnTo(0, 3, 0));
        s.mark(1, 1, 0);
        Check.due("not marked for goal 1 any more", 3, s.turnTo(0, 1, 0));
        s.mark(1, 2, 0);
        s.tick(1);
        for (int goal = 0; goal < 4; goal++) {
            int g = goal;
            Check.stateRefused("it is out", s, () -> s.turnTo(0, g, 0));
        }
        Check.due("its goal is as it was", 1, s.ofWalker(0, 0));
    }

    private static void manyOfNothing() {
        Check.about("Promise 13: returns that (0 for 5 without JAMS)");
        StarlingSquare s = new StarlingSquare();
        checkMany("of a new object", s, 0, 0, 0, 0, 0, 0, 0, 0, 0);
        s.wall(0, 0, 9, 7, true);
        checkMany("of walls alone", s, 0, 0, 0, 0, 0, 0, 0, 0, 0);
        s.reset(2, 2);
        s.tick(20);
        checkMany("of the smallest one", s, 0, 0, 0, 0, 0, 0, 0, 0, 0);
        s.mark(0, 0, 0);
        s.walker(0, 1, 0, 0, 1);
        s.tick(20);
        checkMany("of one that is out", s, 1, 1, 0, 0, 0, 0, 1, 1, 0);
    }

    private static void manyThatAreNoneFar() {
        Check.about("Promise 13: 2 those whose own FIELD is NONE FAR from their GOAL");
        StarlingSquare s = new StarlingSquare();
        for (int i = 0; i < 24; i++) {
            s.walker(i % 4, 1, 0, i % 10, i / 10);
        }
        for (int goal = 0; goal < 4; goal++) {
            Check.due("without " + (4 - goal) + " goals", 24 - 6 * goal, s.many(2));
            s.mark(goal, 9, 7);
        }
        Check.due("all have a way", 0, s.many(2));
        s.wall(0, 3, 9, 3, true);
        Check.due("none has one", 24, s.many(2));
        s.wall(9, 3, 9, 3, false);
        Check.due("through a gap", 0, s.many(2));
        for (int t = 0; t < 20; t++) {
            s.tick(20);
        }
        Check.due("all are out", 24, s.many(1));
        s.wall(9, 7, 9, 7, true);
        Check.due("those that are out have no field", 0, s.many(2));
    }

    private static void manyThatAreNoneFarInPart() {
        Check.about("Promise 13: 2 those whose own FIELD is NONE FAR from their GOAL");
        StarlingSquare s = corridor(9);
        s.mark(0, 0, 0);
        s.wall(4, 0, 4, 0, true);
        s.walker(0, 1, 0, 3, 0);
        s.walker(0, 1, 0, 5, 0);
        s.walker(0, 1, 0, 8, 0);
        s.walker(1, 1, 0, 2, 0);
        Check.due("two behind the wall, one without a goal", 3, s.many(2));
        s.turnTo(3, 0, 0);
        s.tick(2);
        Check.due("also while others go", 2, s.many(2));
        s.tick(3);
        Check.due("and are out", 2, s.many(1));
        Check.due("two are left", 2, s.many(2));
        s.wall(4, 0, 4, 0, false);
        s.tick(1);
        Check.due("with a way", 0, s.many(2));
        s.wall(3, 0, 3, 0, true);
        Check.due("and without it again", 2, s.many(2));
    }

    private static void manyInJamsOfSeveralSizes() {
        Check.about("Promise 13: 3 those in JAMS, 4 JAMS, 5 walkers in the greatest JAM");
        StarlingSquare s = new StarlingSquare();
        s.set(2, 1);
        int[][] fields = {{0, 0}, {9, 7}, {9, 6}, {9, 5}, {4, 4}, {5, 4}, {0, 7}, {1, 7}, {0, 6}};
        for (int[] f : fields) {
            s.walker(0, 1, 0, f[0], f[1]);
        }
        checkMany("ahead", s, 9, 0, 9, 0, 0, 0);
        s.tick(1);
        checkMany("behind", s, 9, 0, 9, 9, 4, 3);
        Check.due("the one of one", 1, s.jam(0));
        Check.due("the one of two", 2, s.jam(5));
        Check.due("both of three", 6, s.jam(3) + s.jam(8));
        s.set(2, 2);
        checkMany("with a greater JAM", s, 9, 0, 9, 0, 0, 0);
    }

    private static void manySteps() {
        Check.about("Promise 13: 6 all steps that were walked");
        StarlingSquare s = corridor(14);
        s.mark(0, 13, 0);
        s.walker(0, 1, 0, 11, 0);
        s.walker(0, 2, 0, 0, 0);
        int[] due = {1, 3, 3, 4, 4, 5};
        for (int t = 0; t < due.length; t++) {
            s.tick(1);
            Check.due("steps behind " + (t + 1), due[t], s.many(6));
        }
        s.outWith(60, 2);
        Check.due("what would be is no step", 5, s.many(6));
        s.wall(13, 0, 13, 0, true);
        Check.due("they stay walked", 5, s.many(6));
    }

    private static void manyFirstWithTheGreatestHeat() {
        Check.about("Promise 13: 7 the greatest HEAT of a FIELD, 8 the first FIELD with that, as its NUMBER");
        StarlingSquare s = new StarlingSquare();
        s.reset(6, 4);
        s.mark(0, 0, 3);
        s.walker(0, 1, 0, 3, 3);
        s.tick(1);
        Check.due("one field", 20, s.many(8));
        s.tick(2);
        Check.due("the first of three", 18, s.many(8));
        Check.due("with 1 each", 1, s.many(7));
        s.mark(1, 1, 1);
        s.walker(1, 1, 0, 3, 1);
        s.tick(2);
        Check.due("the first of five", 7, s.many(8));
        s.walker(1, 1, 0, 3, 1);
        s.tick(1);
        Check.due("one with 2, not the first hot one", 8, s.many(8));
        Check.due("the greatest", 2, s.many(7));
        s.tick(1);
        Check.due("the first of two with 2", 7, s.many(8));
        s.wall(1, 1, 1, 1, true);
        Check.due("a wall is a field, too", 7, s.many(8));
    }

    private static void manyHeatInTheLastField() {
        Check.about("Promise 13: 8 the first FIELD with that, as its NUMBER");
        StarlingSquare s = new StarlingSquare();
        s.reset(14, 14);
        s.mark(0, 13, 13);
        s.walker(0, 1, 0, 13, 12);
        s.tick(1);
        Check.due("the last one", 195, s.many(8));
        s.mark(0, 0, 0);
        s.walker(0, 1, 0, 1, 0);
        s.tick(1);
        Check.due("the first one", 0, s.many(8));
        s.walker(0, 1, 0, 12, 13);
        s.tick(1);
        Check.due("the last one with 2", 195, s.many(8));
        Check.due("with 2", 2, s.many(7));
    }

    private static void ofWalkerThatIsOut() {
        Check.about("Promise 14: 3 (NONE, if it is OUT), 7 (0, if it is OUT), 8 (NONE, if it is not)");
        StarlingSquare s = corridor(4);
        s.mark(2, 3, 0);
        s.walker(2, 3, 9, 2, 0);
        checkWalker("ahead", s, 0, 2, 3, 9, 2, STAY, 0, 0, 1, NONE);
        s.tick(3);
        checkWalker("out", s, 0, 2, 3, 9, NONE, 0, 0, 1, 0, 3);
        s.tick(20);
        s.mark(2, 3, 0);
        s.mark(0, 0, 0);
        checkWalker("out, without its goal", s, 0, 2, 3, 9, NONE, 0, 0, 1, 0, 3);
        Check.due("it is in no jam", 0, s.jam(0));
    }

    private static void ofWalkerThatIsNoneFar() {
        Check.about("Promise 14: 7 how FAR it is from its GOAL (NONE)");
        StarlingSquare s = corridor(5);
        s.walker(0, 1, 0, 0, 0);
        Check.due("without marks", NONE, s.ofWalker(0, 7));
        s.mark(0, 4, 0);
        Check.due("with one", 4, s.ofWalker(0, 7));
        s.wall(2, 0, 2, 0, true);
        Check.due("behind a wall", NONE, s.ofWalker(0, 7));
        s.wall(2, 0, 2, 0, false);
        s.walker(1, 1, 0, 2, 0);
        Check.due("behind another walker", 4, s.ofWalker(0, 7));
        s.tick(2);
        Check.due("beside it", 3, s.ofWalker(0, 7));
    }

    private static void ofWalkerOutWithTheClock() {
        Check.about("Promise 14: 8 the CLOCK with which it came to be OUT");
        for (int pace = 1; pace <= 3; pace++) {
            StarlingSquare s = corridor(4);
            s.mark(0, 3, 0);
            s.tick(20);
            s.walker(0, pace, 0, 1, 0);
            s.tick(20);
            int firstTurn = 20 / pace * pace + pace;
            Check.due("pace " + pace, firstTurn + pace, s.ofWalker(0, 8));
        }
    }

    private static void costOfWhatCanNotBeWanted() {
        Check.about("Promise 15: 10000 if it can not be WANTED");
        StarlingSquare s = new StarlingSquare();
        s.reset(2, 2);
        s.mark(0, 0, 1);
        s.walker(0, 1, 9, 0, 0);
        Check.due("to the right", 20, s.cost(0, 0));
        Check.due("down, to its goal", 0, s.cost(0, 1));
        Check.due("over the left edge", CAN_NOT, s.cost(0, 2));
        Check.due("over the upper edge", CAN_NOT, s.cost(0, 3));
        Check.due("to stay", 10, s.cost(0, 4));
        s.walker(1, 1, 0, 0, 1);
        Check.due("a walker is on its goal", CAN_NOT, s.cost(0, 1));
        Check.due("which is as far as before", 10 + 9, s.cost(0, 4));
        s.wall(1, 0, 1, 0, true);
        Check.due("a wall", CAN_NOT, s.cost(0, 0));
        s.mark(0, 0, 1);
        Check.due("to stay where it is none far", CAN_NOT, s.cost(0, 4));
        s.walker(2, 1, 0, 1, 1);
        Check.due("over the lower edge", CAN_NOT, s.cost(2, 1));
        Check.due("over the right edge", CAN_NOT, s.cost(2, 0));
    }

    private static void costAsItIsNow() {
        Check.about("Promise 15: returns the COST of that, as it is now");
        StarlingSquare s = corridor(14);
        s.mark(0, 0, 0);
        s.walker(0, 3, 9, 13, 0);
        Check.due("the farthest, whether it is its turn or not", 120, s.cost(0, 2));
        Check.due("to stay", 130, s.cost(0, 4));
        s.walker(1, 1, 0, 11, 0);
        Check.due("with another beside that field", 129, s.cost(0, 2));
        s.turnTo(0, 0, 5);
        Check.due("with another mood", 125, s.cost(0, 2));
        s.mark(0, 12, 0);
        Check.due("with another field of its goal", 5, s.cost(0, 2));
    }

    private static void wantsIfItWasItsTurn() {
        Check.about("Promise 16: if it was its TURN now");
        StarlingSquare s = corridor(6);
        s.mark(0, 5, 0);
        s.walker(0, 3, 0, 0, 0);
        for (int clock = 0; clock <= 4; clock++) {
            Check.due("at " + clock, 0, s.wants(0));
            s.tick(1);
        }
        s.walker(0, 1, 0, 2, 0);
        Check.due("one behind another", STAY, s.wants(0));
        Check.due("that one goes", 0, s.wants(1));
    }

    private static void wantsNothing() {
        Check.about("Promise 16: 4 to stay (also if it can WANT nothing)");
        StarlingSquare s = new StarlingSquare();
        s.walker(0, 1, 0, 0, 0);
        Check.due("nothing is marked", STAY, s.wants(0));
        s.mark(0, 9, 7);
        Check.due("the smaller side of two", 0, s.wants(0));
        s.walker(1, 1, 0, 1, 0);
        Check.due("the other one", 1, s.wants(0));
        s.wall(0, 1, 0, 1, true);
        Check.due("both are shut, but it has a way", STAY, s.wants(0));
        Check.due("to stay can be wanted", 160, s.cost(0, 4));
        s.turnTo(0, 2, 0);
        Check.due("now it has none", STAY, s.wants(0));
        Check.due("nothing can be wanted", CAN_NOT, s.cost(0, 4));
    }

    private static void wayOfNoStepAndOfAll() {
        Check.about("Promise 17: NONE if there are not so many, or no way (also with 0)");
        StarlingSquare s = corridor(14);
        s.mark(0, 13, 0);
        s.walker(0, 1, 0, 0, 0);
        for (int k = 0; k <= 13; k++) {
            Check.due("behind " + k, k, s.way(0, k));
        }
        Check.due("behind 14", NONE, s.way(0, 14));
        Check.due("behind 2147483647", NONE, s.way(0, Integer.MAX_VALUE));
        s.tick(12);
        Check.due("one step is left", 13, s.way(0, 1));
        Check.due("from its field on", 12, s.way(0, 0));
        Check.due("not two", NONE, s.way(0, 2));
    }

    private static void wayIfItWasAlone() {
        Check.about("Promise 17: the way of a walker, if it was alone");
        StarlingSquare s = corridor(5);
        s.mark(0, 4, 0);
        s.walker(0, 3, 9, 0, 0);
        s.walker(1, 1, 0, 1, 0);
        s.walker(1, 1, 0, 2, 0);
        s.walker(1, 1, 0, 4, 0);
        for (int k = 0; k <= 4; k++) {
            Check.due("through all others, " + k, k, s.way(0, k));
        }
        Check.due("though it can't go", STAY, s.wants(0));
    }

    private static void wayInTheFirstSide() {
        Check.about("Promise 17: always in the first SIDE with which it is one step nearer");
        StarlingSquare s = new StarlingSquare();
        s.reset(5, 5);
        s.walker(0, 1, 0, 2, 2);
        s.mark(0, 0, 0);
        checkWay(s, 12, 11, 10, 5, 0);
        s.mark(0, 4, 4);
        checkWay(s, 12, 13, 14, 19, 24);
        s.mark(0, 4, 4);
        s.mark(0, 0, 4);
        checkWay(s, 12, 17, 22, 21, 20);
        s.wall(2, 4, 2, 4, true);
        checkWay(s, 12, 17, 16, 21, 20);
        s.wall(2, 3, 2, 3, true);
        checkWay(s, 12, 11, 16, 21, 20);
        s.mark(0, 0, 4);
        s.mark(0, 0, 0);
        s.mark(0, 3, 1);
        checkWay(s, 12, 13, 8);
        s.wall(3, 2, 3, 2, true);
        checkWay(s, 12, 7, 8);
    }

    private static void checkWay(StarlingSquare s, int... numbers) {
        for (int k = 0; k < numbers.length; k++) {
            Check.due("behind " + k, numbers[k], s.way(0, k));
        }
        Check.due("not more", NONE, s.way(0, numbers.length));
    }

    private static void wayWithoutAWay() {
        Check.about("Promise 17: NONE if there is no way (also with 0)");
        StarlingSquare s = corridor(5);
        s.walker(0, 1, 0, 0, 0);
        Check.due("without a mark, 0", NONE, s.way(0, 0));
        Check.due("without a mark, 1", NONE, s.way(0, 1));
        s.mark(0, 4, 0);
        Check.due("with a mark, 0", 0, s.way(0, 0));
        s.wall(3, 0, 3, 0, true);
        Check.due("behind a wall, 0", NONE, s.way(0, 0));
        Check.due("behind a wall, 1", NONE, s.way(0, 1));
    }

    private static void jamOfNobody() {
        Check.about("Promise 18: 0 if it is in none");
        StarlingSquare s = new StarlingSquare();
        s.walker(0, 1, 0, 0, 0);
        s.walker(0, 2, 0, 1, 0);
        Check.due("nobody waited", 0, s.jam(0));
        s.tick(3);
        Check.due("alone in its jam", 1, s.jam(0));
        Check.due("one that waited less is in none", 0, s.jam(1));
        s.mark(0, 0, 1);
        s.tick(1);
        Check.due("who is out is in none", 0, s.jam(0));
    }

    private static void jamOfEach() {
        Check.about("Promise 18: returns how many walkers are in its JAM");
        StarlingSquare s = new StarlingSquare();
        int[] sizes = {1, 2, 3, 4, 5};
        for (int row = 0; row < 4; row++) {
            for (int x = 0; x < sizes[row]; x++) {
                s.walker(row, 1, 0, x, 2 * row);
            }
        }
        s.tick(3);
        int walker = 0;
        for (int row = 0; row < 4; row++) {
            for (int x = 0; x < sizes[row]; x++) {
                Check.due("walker " + walker, sizes[row], s.jam(walker));
                walker++;
            }
        }
        s.walker(0, 1, 0, 0, 1);
        s.tick(3);
        Check.due("one joins the first and the second", 4, s.jam(0));
        Check.due("it is in it, too", 4, s.jam(walker));
    }

    private static void meanWithoutAny() {
        Check.about("Promise 19: 0 without any");
        StarlingSquare s = corridor(5);
        Check.dueMean("without walkers", 0.0, s.meanSteps());
        s.mark(0, 4, 0);
        s.walker(0, 1, 0, 0, 0);
        s.tick(3);
        Check.dueMean("one that walked, but is not out", 0.0, s.meanSteps());
        s.tick(1);
        Check.dueMean("one that is out", 4.0, s.meanSteps());
        s.reset(5, 2);
        Check.dueMean("behind reset", 0.0, s.meanSteps());
    }

    private static void meanNotCut() {
        Check.about("Promise 19: the mean of how many steps those that are OUT walked, not cut");
        StarlingSquare s = corridor(14);
        s.mark(0, 13, 0);
        s.walker(0, 1, 0, 12, 0);
        s.walker(0, 1, 0, 10, 0);
        s.walker(1, 1, 0, 0, 0);
        s.tick(3);
        Check.dueMean("1 and 3, not the one that waits", 2.0, s.meanSteps());
        s.walker(0, 1, 0, 12, 0);
        s.tick(1);
        Check.dueMean("5 by 3", 5 / 3.0, s.meanSteps());
        s.walker(0, 1, 0, 12, 0);
        s.tick(1);
        Check.dueMean("6 by 4", 1.5, s.meanSteps());
        s.turnTo(2, 0, 0);
        s.tick(12);
        Check.dueMean("one on its way does not count", 1.5, s.meanSteps());
        s.tick(1);
        Check.dueMean("19 by 5", 19 / 5.0, s.meanSteps());
    }
}
