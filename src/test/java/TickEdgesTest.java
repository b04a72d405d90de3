/** What the document says of the edges of walking: terms 2 to 4, and promises 11 and 12. */
public final class TickEdgesTest {
    private static final int NONE = -1;
    private static final int STAY = 4;
    private static final int CAN_NOT = 10000;

    private TickEdgesTest() {
    }

    public static void main(String[] args) {
        eachOnAFreeFieldAlone();
        facingIs4AtFirst();
        facingStaysWithWhoStays();
        waitedUpToTheLatestOne();
        waitedWithItsTurnAlone();
        theClockIsOneMore();
        turnByTheClock();
        turnOfWhoCameLater();
        aFieldThatIsLeftInTheTick();
        twoThatWouldChangePlaces();
        fourInARing();
        crowdAsItWasAheadOfTheTick();
        facingAsItWasAheadOfTheTick();
        outAsItWasAheadOfTheTick();
        notToAWallOrAWalkerOrOverTheEdge();
        whoCanWantNothingStays();
        smallestSideOfSeveral();
        toStayLast();
        moodOfNobodyAndOfSeven();
        moodLooksRoundThatField();
        drawOfNobodyAndOfSeven();
        drawOfEachOneRoundToEachSide();
        drawLooksRoundItsOwnField();
        drawIsNothingToStay();
        ofSeveralTheSmallestNumber();
        theGreatestWaitedGoes();
        withoutItsTurnNobodyIsInTheWay();
        whoDidNotGoIsAsItWas();
        whoGoesHasWaited0();
        heatCountsEachComing();
        outWithThat();
        theMarkOfAnotherGoal();
        theSquareIsFull();
        oneFieldIsLeft();
        jamFromWaitedOn();
        jamOverSidesAlone();
        jamAndSoOn();
        jamsOf24();
        whoIsOutIsInNoJam();
        ticksReturnsThoseThatCameToBeOut();
        twentyTicksAreTwentyTimesOne();
        Check.end();
    }

    /** A corridor of w FIELDS, in the first row; the second one is a WALL. */
    private static StarlingSquare corridor(int w) {
        StarlingSquare s = new StarlingSquare();
        s.reset(w, 2);
        s.wall(0, 1, w - 1, 1, true);
        return s;
    }

    private static void eachOnAFreeFieldAlone() {
        Check.about("2: Each is ON a FREE FIELD, on which is no other one, or OUT");
        StarlingSquare s = new StarlingSquare();
        s.reset(8, 8);
        s.mark(0, 7, 2);
        s.mark(1, 7, 5);
        s.mark(2, 4, 7);
        s.wall(5, 1, 5, 3, true);
        for (int i = 0; i < 24; i++) {
            s.walker(i % 3, 1 + i % 2, i % 3, i % 3, i / 3);
        }
        for (int t = 0; t < 60; t++) {
            s.tick(1);
            checkPlaces(s);
        }
        Check.due("most came to be out", 1, s.many(1) > s.many(0) / 2 ? 1 : 0);
    }

    private static void checkPlaces(StarlingSquare s) {
        int on = 0;
        int heat = 0;
        for (int number = 0; number < 64; number++) {
            int who = s.field(number % 8, number / 8, 1);
            heat += s.field(number % 8, number / 8, 2);
            if (who != NONE) {
                on++;
                Check.due("where walker " + who + " is", number, s.ofWalker(who, 3));
                Check.due("it is free", 0, s.field(number % 8, number / 8, 0));
                Check.due("it is not out", NONE, s.ofWalker(who, 8));
            }
        }
        Check.due("all others are out", s.many(0) - s.many(1), on);
        Check.due("each step is heat", s.many(6), heat);
    }

    private static void facingIs4AtFirst() {
        Check.about("2: FACING is 4 as long as it went in none");
        StarlingSquare s = new StarlingSquare();
        s.walker(0, 1, 0, 4, 4);
        Check.due("new", STAY, s.ofWalker(0, 4));
        s.tick(20);
        Check.due("it only waited", STAY, s.ofWalker(0, 4));
        s.mark(0, 4, 0);
        s.tick(1);
        Check.due("it went up", 3, s.ofWalker(0, 4));
    }

    private static void facingStaysWithWhoStays() {
        Check.about("2: FACING is the SIDE in which it went last");
        StarlingSquare s = new StarlingSquare();
        s.mark(0, 0, 0);
        s.walker(0, 1, 0, 3, 0);
        s.tick(1);
        s.mark(0, 0, 0);
        s.tick(5);
        Check.due("who waits faces as before", 2, s.ofWalker(0, 4));
        s.mark(1, 9, 0);
        s.turnTo(0, 1, 0);
        Check.due("also who turned to another goal", 2, s.ofWalker(0, 4));
        s.tick(1);
        Check.due("until it goes", 0, s.ofWalker(0, 4));
        s.tick(20);
        Check.due("who is out faces where it came out", 0, s.ofWalker(0, 4));
    }

    private static void waitedUpToTheLatestOne() {
        Check.about("2: WAITED is for how many TICKS, one behind the other up to the latest one");
        StarlingSquare s = corridor(8);
        s.mark(0, 7, 0);
        s.walker(0, 1, 0, 1, 0);
        s.walker(1, 1, 0, 2, 0);
        Check.due("at first", 0, s.ofWalker(0, 5));
        s.tick(1);
        Check.due("one", 1, s.ofWalker(0, 5));
        s.tick(1);
        Check.due("two", 2, s.ofWalker(0, 5));
        s.turnTo(1, 0, 0);
        s.tick(1);
        Check.due("three, though the way is open then", 3, s.ofWalker(0, 5));
        Check.due("the other went", 0, s.ofWalker(1, 5));
        s.tick(1);
        Check.due("it went", 0, s.ofWalker(0, 5));
        s.turnTo(1, 1, 0);
        s.tick(2);
        Check.due("one step up to the other, and one to wait", 1, s.ofWalker(0, 5));
    }

    private static void waitedWithItsTurnAlone() {
        Check.about("2: WAITED is for how many TICKS with its TURN");
        int[] waited2 = {0, 1, 1, 2, 2, 3};
        int[] waited3 = {0, 0, 1, 1, 1, 2};
        StarlingSquare s = new StarlingSquare();
        s.walker(0, 2, 0, 0, 0);
        s.walker(0, 3, 0, 9, 7);
        for (int t = 0; t < 6; t++) {
            s.tick(1);
            Check.due("pace 2 behind " + (t + 1), waited2[t], s.ofWalker(0, 5));
            Check.due("pace 3 behind " + (t + 1), waited3[t], s.ofWalker(1, 5));
        }
    }

    private static void theClockIsOneMore() {
        Check.about("3: The CLOCK is 1 more; 12: returns the CLOCK");
        StarlingSquare s = new StarlingSquare();
        Check.due("at first", 0, s.clock());
        for (int t = 1; t <= 20; t++) {
            s.tick(1);
            Check.due("without any walker", t, s.clock());
        }
        Check.argumentRefused("21 ticks", s, () -> s.tick(21));
        Check.due("a refused call is no tick", 20, s.clock());
        s.tick(20);
        Check.due("20 at once", 40, s.clock());
        s.reset(10, 8);
        Check.due("0 behind reset", 0, s.clock());
    }

    private static void turnByTheClock() {
        Check.about("3: It is the TURN, if the CLOCK is then a multiple of its PACE");
        StarlingSquare s = new StarlingSquare();
        s.reset(14, 5);
        s.set(0, 3);
        for (int goal = 0; goal < 3; goal++) {
            s.mark(goal, 13, 2 * goal);
            s.walker(goal, goal + 1, 0, 0, 2 * goal);
        }
        for (int clock = 1; clock <= 12; clock++) {
            s.tick(1);
            for (int pace = 1; pace <= 3; pace++) {
                Check.due("pace " + pace + " at " + clock, clock / pace, s.ofWalker(pace - 1, 6));
            }
        }
    }

    private static void turnOfWhoCameLater() {
        Check.about("3: It is the TURN, if the CLOCK is then a multiple of its PACE");
        for (int came = 0; came <= 5; came++) {
            for (int pace = 1; pace <= 3; pace++) {
                StarlingSquare s = corridor(14);
                s.mark(0, 13, 0);
                for (int t = 0; t < came; t++) {
                    s.tick(1);
                }
                s.walker(0, pace, 0, 0, 0);
                s.tick(1);
                int due = (came + 1) % pace == 0 ? 1 : 0;
                Check.due("pace " + pace + ", came at " + came, due, s.ofWalker(0, 6));
            }
        }
    }

    private static void aFieldThatIsLeftInTheTick() {
        Check.about("3: to a FREE FIELD, on which is no walker; as it was ahead of the TICK");
        for (int ahead = 0; ahead < 2; ahead++) {
            StarlingSquare s = corridor(8);
            s.mark(0, 7, 0);
            s.walker(0, 1, 0, 2 - ahead, 0);
            s.walker(0, 1, 0, 1 + ahead, 0);
            s.tick(1);
            Check.due("the one in front went", 3, s.ofWalker(ahead, 3));
            Check.due("the one behind did not", 1, s.ofWalker(1 - ahead, 3));
            Check.due("it wanted to stay", 1, s.ofWalker(1 - ahead, 5));
            s.tick(1);
            Check.due("but goes then", 2, s.ofWalker(1 - ahead, 3));
            Check.due("two fields behind it", 4, s.ofWalker(ahead, 3));
        }
    }

    private static void twoThatWouldChangePlaces() {
        Check.about("3: to a FREE FIELD, on which is no walker");
        StarlingSquare s = corridor(4);
        s.mark(0, 3, 0);
        s.mark(1, 0, 0);
        s.walker(0, 1, 0, 1, 0);
        s.walker(1, 1, 0, 2, 0);
        Check.due("not through each other", CAN_NOT, s.cost(0, 0));
        Check.due("nor the other way", CAN_NOT, s.cost(1, 2));
        s.tick(20);
        Check.due("the one stays", 1, s.ofWalker(0, 3));
        Check.due("the other, too", 2, s.ofWalker(1, 3));
        Check.due("and nobody went", 0, s.many(6));
    }

    private static void fourInARing() {
        Check.about("3: to a FREE FIELD, on which is no walker");
        StarlingSquare s = new StarlingSquare();
        s.reset(2, 2);
        s.mark(0, 1, 0);
        s.mark(1, 1, 1);
        s.mark(2, 0, 1);
        s.mark(3, 0, 0);
        s.walker(0, 1, 0, 0, 0);
        s.walker(1, 1, 0, 1, 0);
        s.walker(2, 1, 0, 1, 1);
        s.walker(3, 1, 0, 0, 1);
        for (int i = 0; i < 4; i++) {
            Check.due("all stay", STAY, s.wants(i));
            Check.due("as there is no free field", CAN_NOT, s.cost(i, i));
        }
        Check.due("so nobody is out", 0, s.tick(20));
        Check.due("all wait in one jam", 4, s.jam(3));
    }

    /** A walker can go right or down; one beside the field on the right leaves, or comes there. */
    private static void crowdAsItWasAheadOfTheTick() {
        Check.about("3: All else is looked at as it was ahead of the TICK");
        StarlingSquare leaves = new StarlingSquare();
        leaves.reset(5, 5);
        leaves.mark(0, 2, 3);
        leaves.mark(1, 4, 1);
        leaves.walker(1, 1, 0, 3, 1);
        leaves.walker(0, 1, 9, 1, 2);
        Check.due("one leaves, and is out", 1, leaves.tick(1));
        Check.due("but counts with that tick", 1, leaves.ofWalker(1, 4));
        StarlingSquare comes = new StarlingSquare();
        comes.reset(5, 5);
        comes.mark(0, 2, 3);
        comes.mark(1, 3, 0);
        comes.walker(1, 1, 0, 4, 1);
        comes.walker(0, 1, 9, 1, 2);
        comes.tick(1);
        Check.due("one comes", 8, comes.ofWalker(0, 3));
        Check.due("but counts with the next tick alone", 0, comes.ofWalker(1, 4));
    }

    private static void facingAsItWasAheadOfTheTick() {
        Check.about("3: All else is looked at as it was ahead of the TICK");
        StarlingSquare s = new StarlingSquare();
        s.reset(5, 5);
        s.set(9, 3);
        s.mark(0, 2, 3);
        s.mark(1, 0, 3);
        s.walker(1, 1, 0, 0, 1);
        s.walker(0, 1, 0, 1, 2);
        s.tick(1);
        Check.due("one beside it goes down now", 1, s.ofWalker(0, 4));
        Check.due("but did not face down before", 0, s.ofWalker(1, 4));
    }

    private static void outAsItWasAheadOfTheTick() {
        Check.about("3: on which is no walker; as it was ahead of the TICK");
        StarlingSquare s = corridor(4);
        s.mark(0, 3, 0);
        s.walker(0, 1, 0, 2, 0);
        s.walker(0, 1, 0, 1, 0);
        s.walker(0, 1, 0, 0, 0);
        int[] outs = {1, 0, 1, 0, 1};
        for (int t = 0; t < 5; t++) {
            Check.due("out with tick " + (t + 1), outs[t], s.tick(1));
        }
        Check.due("the second", 3, s.ofWalker(1, 8));
        Check.due("the third", 5, s.ofWalker(2, 8));
    }

    private static void notToAWallOrAWalkerOrOverTheEdge() {
        Check.about("3: in a SIDE, to a FREE FIELD, on which is no walker, and which is not NONE FAR");
        StarlingSquare s = new StarlingSquare();
        s.reset(2, 3);
        s.mark(0, 0, 0);
        s.walker(0, 1, 0, 1, 1);
        s.wall(1, 2, 1, 2, true);
        s.walker(1, 1, 0, 1, 0);
        Check.due("over the edge", CAN_NOT, s.cost(0, 0));
        Check.due("to a wall", CAN_NOT, s.cost(0, 1));
        Check.due("to a free field", 10, s.cost(0, 2));
        Check.due("to a walker", CAN_NOT, s.cost(0, 3));
        Check.due("to stay", 20, s.cost(0, 4));
        s.mark(0, 0, 0);
        Check.due("to a field that is none far", CAN_NOT, s.cost(0, 2));
        Check.due("to stay where it is none far", CAN_NOT, s.cost(0, 4));
    }

    private static void whoCanWantNothingStays() {
        Check.about("3: or to stay, if its own FIELD is not NONE FAR");
        StarlingSquare s = new StarlingSquare();
        s.walker(0, 1, 9, 4, 4);
        for (int side = 0; side <= 4; side++) {
            Check.due("side " + side + " can't be wanted", CAN_NOT, s.cost(0, side));
        }
        Check.due("it stays", STAY, s.wants(0));
        s.tick(7);
        Check.due("where it was", 44, s.ofWalker(0, 3));
        Check.due("and waited", 7, s.ofWalker(0, 5));
        s.mark(0, 9, 4);
        s.wall(3, 3, 5, 3, true);
        s.wall(3, 5, 5, 5, true);
        s.wall(3, 4, 3, 4, true);
        s.wall(5, 4, 5, 4, true);
        s.tick(2);
        Check.due("walled in, it waits on", 9, s.ofWalker(0, 5));
        Check.due("without a way", 1, s.many(2));
    }

    /** All four SIDES cost the same where their FIELDS are MARKED: each pair, and all of them. */
    private static void smallestSideOfSeveral() {
        Check.about("3: of several the SIDE with the smallest number");
        int[] dx = {1, 0, -1, 0};
        int[] dy = {0, 1, 0, -1};
        for (int sides = 1; sides < 16; sides++) {
            StarlingSquare s = new StarlingSquare();
            s.reset(3, 3);
            for (int side = 3; side >= 0; side--) {
                if ((sides >> side & 1) == 1) {
                    s.mark(0, 1 + dx[side], 1 + dy[side]);
                }
            }
            s.walker(0, 1, 0, 1, 1);
            int due = Integer.numberOfTrailingZeros(sides);
            Check.due("of the sides " + sides, due, s.wants(0));
            s.tick(1);
            Check.due("and so it went", due, s.ofWalker(0, 4));
        }
    }

    /** Two walkers beside the FIELD in front, none beside its own: MOOD 5 weighs as much as the step. */
    private static void toStayLast() {
        Check.about("3: of several the SIDE with the smallest number, to stay last");
        int[] due = {2, 2, STAY};
        for (int mood = 4; mood <= 6; mood++) {
            StarlingSquare s = new StarlingSquare();
            s.reset(4, 3);
            s.mark(0, 0, 0);
            s.wall(2, 0, 3, 0, true);
            s.wall(2, 2, 3, 2, true);
            s.walker(1, 1, 0, 1, 0);
            s.walker(1, 1, 0, 1, 2);
            s.wall(2, 1, 2, 1, false);
            s.walker(0, 1, mood, 3, 1);
            Check.due("to go", 30 + 2 * mood, s.cost(2, 2));
            Check.due("to stay", 40, s.cost(2, 4));
            Check.due("with mood " + mood, due[mood - 4], s.wants(2));
        }
    }

    private static void moodOfNobodyAndOfSeven() {
        Check.about("3: MOOD * how many other walkers are ROUND that FIELD");
        StarlingSquare s = new StarlingSquare();
        s.reset(4, 3);
        s.mark(0, 3, 1);
        s.walker(0, 1, 9, 1, 1);
        Check.due("alone, to go", 10, s.cost(0, 0));
        Check.due("alone, to stay", 20, s.cost(0, 4));
        int[][] others = {{1, 0}, {2, 0}, {3, 0}, {3, 1}, {1, 2}, {2, 2}, {3, 2}};
        for (int i = 0; i < 7; i++) {
            s.walker(1, 1, 0, others[i][0], others[i][1]);
            Check.due("one more", 10 + 9 * (i + 1), s.cost(0, 0));
        }
        Check.due("two round the field on the left", 30 + 9 * 2, s.cost(0, 2));
        Check.due("four round its own", 20 + 9 * 4, s.cost(0, 4));
        Check.due("so it goes away from there", 2, s.wants(0));
        s.turnTo(0, 0, 0);
        Check.due("with mood 0", 10, s.cost(0, 0));
        Check.due("it goes there", 0, s.wants(0));
        s.turnTo(0, 0, 1);
        Check.due("with mood 1", 17, s.cost(0, 0));
    }

    private static void moodLooksRoundThatField() {
        Check.about("3: MOOD * how many other walkers are ROUND that FIELD");
        StarlingSquare s = new StarlingSquare();
        s.mark(0, 9, 3);
        s.walker(0, 1, 9, 4, 3);
        s.walker(1, 1, 0, 3, 2);
        Check.due("who is round its own field alone counts nothing", 40, s.cost(0, 0));
        Check.due("but to stay it does", 50 + 9, s.cost(0, 4));
        s.walker(1, 1, 0, 6, 4);
        Check.due("who is round that field does", 40 + 9, s.cost(0, 0));
        Check.due("but not to stay", 50 + 9, s.cost(0, 4));
        s.walker(1, 1, 0, 7, 3);
        Check.due("two away is not round it", 40 + 9, s.cost(0, 0));
    }

    /** Seven who went to the right stand round a walker that goes to the right, to its GOAL. */
    private static StarlingSquare sevenWhoFaceRight() {
        StarlingSquare s = new StarlingSquare();
        s.reset(14, 3);
        s.mark(1, 13, 1);
        int[][] from = {{12, 0}, {11, 0}, {10, 0}, {10, 1}, {12, 2}, {11, 2}, {10, 2}};
        for (int i = 0; i < 7; i++) {
            s.walker(1, 1, 0, from[i][0], from[i][1]);
            s.tick(1);
            s.turnTo(i, 2, 0);
            Check.due("it went to the right", 0, s.ofWalker(i, 4));
            Check.due("by one", from[i][1] * 14 + from[i][0] + 1, s.ofWalker(i, 3));
        }
        return s;
    }

    private static void drawOfNobodyAndOfSeven() {
        Check.about("3: less DRAW (0 to 9; 2, at first) for each other walker ROUND its own FIELD");
        StarlingSquare s = sevenWhoFaceRight();
        s.walker(1, 1, 0, 12, 1);
        Check.due("DRAW 2, at first", -14, s.cost(7, 0));
        s.set(0, 20);
        Check.due("DRAW 0", 0, s.cost(7, 0));
        s.set(1, 20);
        Check.due("DRAW 1", -7, s.cost(7, 0));
        s.set(9, 20);
        Check.due("DRAW 9", -63, s.cost(7, 0));
        Check.due("nothing of this, to stay", 10, s.cost(7, 4));
        s.turnTo(7, 1, 9);
        Check.due("with four round its goal", 4 * 9 - 63, s.cost(7, 0));
        Check.due("and seven round its own field", 10 + 7 * 9, s.cost(7, 4));
        Check.due("it goes", 0, s.wants(7));
        Check.due("and is out", 1, s.tick(1));
    }

    private static void drawOfEachOneRoundToEachSide() {
        Check.about("3: less DRAW for each other walker ROUND its own FIELD that is FACING that SIDE");
        int[] dx = {1, 0, -1, 0};
        int[] dy = {0, 1, 0, -1};
        for (int side = 0; side < 4; side++) {
            for (int round = 0; round < 9; round++) {
                int x = 3 + round % 3;
                int y = 3 + round / 3;
                boolean isTarget = x == 4 + dx[side] && y == 4 + dy[side];
                if (round != 4) {
                    StarlingSquare s = new StarlingSquare();
                    s.reset(9, 9);
                    s.mark(1, x + dx[side], y + dy[side]);
                    s.walker(1, 1, 0, x - dx[side], y - dy[side]);
                    s.tick(1);
                    s.turnTo(0, 2, 0);
                    s.mark(0, 4 + 2 * dx[side], 4 + 2 * dy[side]);
                    s.walker(0, 1, 0, 4, 4);
                    String name = "side " + side + " with one at " + x + ", " + y;
                    Check.due("it faces " + name, side, s.ofWalker(0, 4));
                    Check.due(name, isTarget ? CAN_NOT : 10 - 2, s.cost(1, side));
                    boolean isBeside = x == 4 - dy[side] && y == 4 + dx[side];
                    Check.due("another " + name, isBeside ? CAN_NOT : 30, s.cost(1, (side + 1) % 4));
                }
            }
        }
    }

    private static void drawLooksRoundItsOwnField() {
        Check.about("3: for each other walker ROUND its own FIELD that is FACING that SIDE");
        StarlingSquare s = new StarlingSquare();
        s.set(9, 20);
        s.mark(0, 9, 3);
        s.walker(0, 1, 0, 5, 3);
        s.tick(1);
        s.turnTo(0, 1, 0);
        Check.due("one faces right", 0, s.ofWalker(0, 4));
        s.walker(0, 1, 0, 4, 3);
        Check.due("but is round that field alone", 40, s.cost(1, 0));
        s.walker(0, 1, 0, 5, 2);
        Check.due("here it is round the own one, over a corner", 40 - 9, s.cost(2, 0));
        Check.due("it does not face down", 40, s.cost(2, 1));
        Check.due("nor up", 60, s.cost(2, 3));
        s.tick(1);
        Check.due("it went to the right, too", 0, s.ofWalker(2, 4));
        Check.due("two others face right; itself is no other", 30 - 18, s.cost(2, 0));
    }

    private static void drawIsNothingToStay() {
        Check.about("3: nothing of this, to stay; FACING is 4 as long as it went in none");
        StarlingSquare s = new StarlingSquare();
        s.set(9, 20);
        s.mark(0, 9, 3);
        s.walker(0, 1, 0, 4, 3);
        s.walker(1, 1, 0, 4, 2);
        s.walker(1, 1, 0, 4, 4);
        s.walker(1, 1, 0, 3, 3);
        Check.due("three who went in none", 3 * STAY, s.ofWalker(1, 4) + s.ofWalker(2, 4) + s.ofWalker(3, 4));
        Check.due("draw nobody to stay", 50, s.cost(0, 4));
        Check.due("nor anywhere else", 40, s.cost(0, 0));
    }

    private static void ofSeveralTheSmallestNumber() {
        Check.about("3: Of several that WANT to go to the same FIELD, the greatest WAITED, then the smallest number");
        StarlingSquare s = new StarlingSquare();
        s.reset(3, 3);
        s.mark(0, 1, 1);
        s.walker(0, 1, 0, 1, 0);
        s.walker(0, 1, 0, 0, 1);
        s.walker(0, 1, 0, 1, 2);
        s.walker(0, 1, 0, 2, 1);
        for (int i = 0; i < 4; i++) {
            Check.due("one goes", 1, s.tick(1));
            Check.due("walker " + i, i + 1, s.ofWalker(i, 8));
            for (int other = i + 1; other < 4; other++) {
                Check.due("the others wait", i + 1, s.ofWalker(other, 5));
            }
        }
    }

    private static void theGreatestWaitedGoes() {
        Check.about("3: the one that goes is that with the greatest WAITED");
        StarlingSquare s = new StarlingSquare();
        s.reset(3, 3);
        s.walker(0, 3, 0, 0, 1);
        s.walker(0, 2, 0, 1, 0);
        s.walker(0, 1, 0, 2, 1);
        s.walker(0, 2, 0, 1, 2);
        s.tick(5);
        int[] waited = {1, 2, 5, 2};
        for (int i = 0; i < 4; i++) {
            Check.due("waited", waited[i], s.ofWalker(i, 5));
        }
        s.mark(0, 1, 1);
        s.tick(1);
        Check.due("that with 5", 6, s.ofWalker(2, 8));
        Check.due("one more", 2, s.ofWalker(0, 5));
        Check.due("one more", 3, s.ofWalker(1, 5));
        s.tick(6);
        Check.due("at 8 the smaller number of two with 3", 8, s.ofWalker(1, 8));
        Check.due("at 9 the one whose turn it is", 9, s.ofWalker(0, 8));
        Check.due("at 10 the last", 10, s.ofWalker(3, 8));
    }

    private static void withoutItsTurnNobodyIsInTheWay() {
        Check.about("3: A walker with its TURN WANTS");
        StarlingSquare s = new StarlingSquare();
        s.reset(3, 3);
        s.walker(0, 2, 0, 0, 1);
        s.tick(2);
        s.walker(0, 1, 0, 2, 1);
        s.mark(0, 1, 1);
        s.tick(1);
        Check.due("one that waited less, with its turn", 3, s.ofWalker(1, 8));
        Check.due("the other did not wait with that", 1, s.ofWalker(0, 5));
        s.tick(1);
        Check.due("it goes with its turn", 4, s.ofWalker(0, 8));
    }

    private static void whoDidNotGoIsAsItWas() {
        Check.about("3: Those whose TURN it was, and who did not go, have WAITED one more");
        StarlingSquare s = new StarlingSquare();
        s.reset(7, 3);
        s.mark(0, 3, 1);
        s.walker(0, 1, 0, 1, 1);
        s.walker(0, 1, 0, 5, 1);
        s.tick(2);
        Check.due("the first is out", 2, s.ofWalker(0, 8));
        int[] due = {0, 1, 0, 11, 2, 1, 1, 1, NONE};
        for (int what = 0; what < due.length; what++) {
            Check.due("the other, " + what, due[what], s.ofWalker(1, what));
        }
        Check.due("nobody came to its field again", 1, s.field(4, 1, 2));
        Check.due("the goal's field had one", 1, s.field(3, 1, 2));
    }

    private static void whoGoesHasWaited0() {
        Check.about("3: All who go are FACING that SIDE, have WAITED 0");
        StarlingSquare s = corridor(5);
        s.walker(0, 1, 0, 0, 0);
        s.tick(20);
        Check.due("20 at once", 20, s.ofWalker(0, 5));
        s.mark(0, 4, 0);
        s.tick(1);
        Check.due("it went", 0, s.ofWalker(0, 5));
        Check.due("to the right", 0, s.ofWalker(0, 4));
        Check.due("and is in no jam", 0, s.jam(0));
        s.tick(3);
        Check.due("who is out waited 0", 0, s.ofWalker(0, 5));
        s.tick(3);
        Check.due("and does not wait any more", 0, s.ofWalker(0, 5));
    }

    private static void heatCountsEachComing() {
        Check.about("3: the HEAT of the FIELD to which they come is 1 more (0 at first)");
        StarlingSquare s = corridor(5);
        s.mark(0, 4, 0);
        s.mark(1, 0, 0);
        s.walker(0, 1, 0, 1, 0);
        Check.due("where one comes in there is none", 0, s.field(1, 0, 2));
        s.tick(2);
        s.turnTo(0, 1, 0);
        s.tick(3);
        int[] due = {1, 1, 2, 1, 0};
        for (int x = 0; x < 5; x++) {
            Check.due("heat at " + x, due[x], s.field(x, 0, 2));
        }
        Check.due("it went back, and is out", 5, s.ofWalker(0, 8));
        s.walker(2, 1, 0, 2, 0);
        s.tick(5);
        Check.due("who stays makes none", 2, s.field(2, 0, 2));
    }

    private static void outWithThat() {
        Check.about("3: Whoever comes to a FIELD that is MARKED for its GOAL is OUT with that (the HEAT counts)");
        StarlingSquare s = corridor(5);
        s.mark(0, 4, 0);
        s.walker(0, 2, 5, 2, 0);
        s.tick(3);
        Check.due("not yet", NONE, s.ofWalker(0, 8));
        s.tick(1);
        int[] due = {0, 2, 5, NONE, 0, 0, 2, 0, 4};
        for (int what = 0; what < due.length; what++) {
            Check.due("out, " + what, due[what], s.ofWalker(0, what));
        }
        Check.due("the heat counts", 1, s.field(4, 0, 2));
        Check.due("the step counts", 2, s.many(6));
        Check.due("it is on none", NONE, s.field(4, 0, 1));
        Check.due("it is round none", 0, s.field(3, 0, 3));
        s.tick(20);
        Check.due("it stays out", 4, s.ofWalker(0, 8));
        s.wall(0, 0, 4, 0, true);
        s.mark(0, 4, 0);
        Check.due("whatever is done", 1, s.many(1));
    }

    private static void theMarkOfAnotherGoal() {
        Check.about("3: a FIELD that is MARKED for its GOAL");
        for (int goal = 0; goal < 4; goal++) {
            for (int other = 0; other < 4; other++) {
                StarlingSquare s = corridor(6);
                s.mark(goal, 5, 0);
                if (other != goal) {
                    s.mark(other, 3, 0);
                }
                s.walker(goal, 1, 0, 2, 0);
                Check.due("goal " + goal + " over a field of " + other, 0, s.tick(2));
                Check.due("it is behind it", 4, s.ofWalker(0, 3));
                Check.due("and out at its own", 1, s.tick(1));
            }
        }
    }

    private static void theSquareIsFull() {
        Check.about("3: to a FREE FIELD, on which is no walker; 24 walkers on 24 FIELDS");
        StarlingSquare s = new StarlingSquare();
        s.reset(6, 4);
        s.mark(0, 5, 3);
        s.mark(1, 0, 0);
        for (int i = 0; i < 24; i++) {
            s.walker(i == 23 ? 1 : i == 0 ? 0 : i % 2, 1, 9, i % 6, i / 6);
        }
        Check.due("nobody comes to be out", 0, s.tick(20));
        Check.due("no step", 0, s.many(6));
        Check.due("all in a jam", 24, s.many(3));
        Check.due("in one", 1, s.many(4));
        Check.due("the greatest", 24, s.many(5));
        for (int i = 0; i < 24; i++) {
            Check.due("each waited", 20, s.ofWalker(i, 5));
            Check.due("each stays", STAY, s.wants(i));
        }
    }

    /** 24 walkers on 25 FIELDS, the one that is left being the GOAL of all: one is OUT each TICK or two. */
    private static void oneFieldIsLeft() {
        Check.about("3: Of several that WANT to go to the same FIELD, the one that goes");
        StarlingSquare s = new StarlingSquare();
        s.reset(5, 5);
        s.mark(0, 2, 2);
        for (int number = 0; number < 25; number++) {
            if (number != 12) {
                s.walker(0, 1, 0, number % 5, number / 5);
            }
        }
        Check.due("of the four beside it", 1, s.tick(1));
        Check.due("the smallest number", 1, s.ofWalker(7, 8));
        Check.due("nobody else went", 1, s.many(6));
        Check.due("then the next one", 1, s.tick(1));
        Check.due("with waited 1, the smallest number", 2, s.ofWalker(11, 8));
        Check.due("at last all are out", 22, s.tick(20) + s.tick(20));
        Check.due("all", 24, s.many(1));
        Check.due("by one field", 24, s.field(2, 2, 2));
        Check.due("the first and hottest", 12, s.many(8));
    }

    private static void jamFromWaitedOn() {
        Check.about("4: if it has WAITED at least JAM (1 to 20; 3, at first)");
        for (int jam = 1; jam <= 20; jam++) {
            StarlingSquare s = new StarlingSquare();
            s.set(2, jam);
            s.walker(0, 1, 0, 4, 4);
            for (int waited = 0; waited <= 20; waited++) {
                int due = waited >= jam ? 1 : 0;
                Check.due("JAM " + jam + ", waited " + waited, due, s.jam(0));
                Check.due("all, JAM " + jam + ", waited " + waited, due, s.many(4));
                s.tick(1);
            }
        }
        StarlingSquare s = new StarlingSquare();
        s.walker(0, 1, 0, 4, 4);
        s.tick(3);
        Check.due("3, at first", 1, s.jam(0));
        s.set(2, 4);
        Check.due("a greater JAM ends it at once", 0, s.jam(0));
        s.set(2, 3);
        Check.due("and a smaller one makes it again", 1, s.jam(0));
    }

    private static void jamOverSidesAlone() {
        Check.about("4: Those whose FIELDS are beside each other (SIDES) are in one JAM");
        int[][] others = {{5, 4}, {4, 5}, {3, 4}, {4, 3}, {5, 5}, {3, 5}, {3, 3}, {5, 3}, {6, 4}};
        for (int k = 0; k < others.length; k++) {
            StarlingSquare s = new StarlingSquare();
            s.walker(0, 1, 0, 4, 4);
            s.walker(1, 1, 0, others[k][0], others[k][1]);
            s.tick(3);
            Check.due("one or two, with number " + k, k < 4 ? 2 : 1, s.jam(0));
            Check.due("jams, with number " + k, k < 4 ? 1 : 2, s.many(4));
        }
        StarlingSquare s = new StarlingSquare();
        s.walker(0, 1, 0, 9, 0);
        s.walker(0, 1, 0, 0, 1);
        s.tick(3);
        Check.due("not from one row's end to the next row", 2, s.many(4));
    }

    private static void jamAndSoOn() {
        Check.about("4: are in one JAM; and so on");
        StarlingSquare s = new StarlingSquare();
        s.walker(0, 1, 0, 0, 0);
        s.walker(0, 1, 0, 4, 0);
        s.walker(0, 1, 0, 1, 0);
        s.walker(0, 1, 0, 3, 0);
        s.walker(0, 2, 0, 2, 0);
        s.tick(5);
        Check.due("the one between waited 2", 2, s.ofWalker(4, 5));
        Check.due("so there are two", 2, s.many(4));
        Check.due("of two", 2, s.many(5));
        Check.due("it is in none", 0, s.jam(4));
        s.tick(1);
        Check.due("with 3 it makes one of them", 1, s.many(4));
        for (int i = 0; i < 5; i++) {
            Check.due("of five", 5, s.jam(i));
        }
    }

    private static void jamsOf24() {
        Check.about("4: JAMS; at most 24 walkers");
        StarlingSquare apart = new StarlingSquare();
        apart.reset(14, 14);
        StarlingSquare snake = new StarlingSquare();
        snake.reset(14, 14);
        for (int i = 0; i < 24; i++) {
            int row = i / 7;
            apart.walker(i % 4, 1, 0, 2 * (i % 7) + row % 2, row);
            snake.walker(i % 4, 1, 0, i < 14 ? i : i < 20 ? 13 : 32 - i, i < 14 ? 0 : i < 20 ? i - 13 : 6);
        }
        apart.tick(3);
        snake.tick(3);
        Check.due("over corners there are 24", 24, apart.many(4));
        Check.due("of one", 1, apart.many(5));
        Check.due("with all", 24, apart.many(3));
        Check.due("in a snake there is one", 1, snake.many(4));
        Check.due("of 24", 24, snake.many(5));
        Check.due("the first is in it", 24, snake.jam(0));
        Check.due("the last, too", 24, snake.jam(23));
    }

    private static void whoIsOutIsInNoJam() {
        Check.about("4: if it is ON a FIELD");
        StarlingSquare s = corridor(4);
        s.set(2, 1);
        s.walker(0, 1, 0, 1, 0);
        s.walker(1, 1, 0, 0, 0);
        s.tick(2);
        Check.due("two in one", 2, s.jam(0));
        s.mark(0, 2, 0);
        s.tick(1);
        Check.due("it is out", 1, s.many(1));
        Check.due("and in none", 0, s.jam(0));
        Check.due("the other is alone", 1, s.jam(1));
        Check.due("in a jam", 1, s.many(3));
    }

    private static void ticksReturnsThoseThatCameToBeOut() {
        Check.about("Promise 11: returns how many walkers came to be OUT");
        StarlingSquare s = new StarlingSquare();
        s.reset(14, 14);
        Check.due("without walkers", 0, s.tick(20));
        for (int i = 0; i < 24; i++) {
            int x = i % 12;
            int row = i / 12;
            s.mark(row, x, 13 * row);
            s.walker(row, 1, 0, x, 1 + 11 * row);
        }
        Check.due("all 24 with one tick", 24, s.tick(1));
        Check.due("all are out", 24, s.many(1));
        Check.due("nobody is left", 0, s.tick(20));
        Check.due("each with one step", 24, s.many(6));
    }

    private static void twentyTicksAreTwentyTimesOne() {
        Check.about("Promise 11: how many TICKS go by");
        StarlingSquare s = new StarlingSquare();
        StarlingSquare t = new StarlingSquare();
        for (StarlingSquare one : new StarlingSquare[] {s, t}) {
            one.mark(0, 9, 3);
            one.mark(1, 0, 4);
            one.wall(5, 0, 5, 2, true);
            for (int i = 0; i < 14; i++) {
                one.walker(i % 2, 1 + i % 3, i % 10, 1 + 7 * (i % 2), i / 2);
            }
        }
        int out = 0;
        for (int n = 0; n < 20; n++) {
            out += s.tick(1);
        }
        Check.due("out with 20", out, t.tick(20));
        Check.due("all the same", s.digest(), t.digest());
        Check.due("some were out", 1, out > 0 ? 1 : 0);
    }
}
