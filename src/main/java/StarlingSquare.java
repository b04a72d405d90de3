/** Crowds that walk on a square. */
public final class StarlingSquare {
    private static final int NONE = -1;
    private static final int SIDES = 4;
    private static final int STAY = 4;
    private static final int ROUND = 8;
    private static final int GOALS = 4;
    private static final int LEAST_EDGE = 2;
    private static final int MOST_EDGE = 14;
    private static final int MOST_FIELDS = 196;
    private static final int MOST_WALKERS = 24;
    private static final int MOST_PACE = 3;
    private static final int MOST_MOOD = 9;
    private static final int MOST_DRAW = 9;
    private static final int MOST_JAM = 20;
    private static final int MOST_TICKS = 20;
    private static final int MOST_TICKS_AHEAD = 60;
    private static final int CAN_NOT = 10000;

    // The SIDES stand first, so that one row serves both for them and for all that is ROUND.
    private static final int[] STEP_X = {1, 0, -1, 0, 1, -1, -1, 1};
    private static final int[] STEP_Y = {0, 1, 0, -1, 1, 1, -1, -1};

    private final Grid grid;
    private final Square square;
    private final Crowd crowd;
    private final Jams jams;
    // What would be is tried out on these two, made once and copied into.
    private final Square trialSquare;
    private final Crowd trialCrowd;

    public StarlingSquare() {
        grid = new Grid();
        square = new Square(grid);
        crowd = new Crowd(grid, square);
        jams = new Jams();
        trialSquare = new Square(grid);
        trialCrowd = new Crowd(grid, trialSquare);
        makeNew(10, 8);
    }

    // ---- the square

    public int reset(int w, int h) throws IllegalArgumentException {
        if (w < LEAST_EDGE || w > MOST_EDGE || h < LEAST_EDGE || h > MOST_EDGE) {
            throw new IllegalArgumentException("an edge is 2 to 14");
        }
        makeNew(w, h);
        return grid.fields;
    }

    public int wall(int x, int y, int toX, int toY, boolean isWall)
            throws IndexOutOfBoundsException, IllegalStateException {
        if (grid.number(x, y) == NONE || grid.number(toX, toY) == NONE) {
            throw new IndexOutOfBoundsException("no such field");
        }
        int left = Math.min(x, toX);
        int right = Math.max(x, toX);
        int top = Math.min(y, toY);
        int bottom = Math.max(y, toY);
        if (isWall && crowd.isAnyoneIn(left, top, right, bottom)) {
            throw new IllegalStateException("a walker is on it");
        }
        for (int row = top; row <= bottom; row++) {
            for (int column = left; column <= right; column++) {
                square.build(grid.number(column, row), isWall);
            }
        }
        square.measureAll();
        return square.countWalls();
    }

    public int mark(int goal, int x, int y) throws IndexOutOfBoundsException, IllegalStateException {
        int f = grid.number(x, y);
        if (!isGoal(goal) || f == NONE) {
            throw new IndexOutOfBoundsException("no such goal or field");
        }
        Walker there = crowd.get(crowd.numberOn(f));
        if (there != null && there.goal == goal) {
            throw new IllegalStateException("a walker with that goal is on it");
        }
        square.turnMark(goal, f);
        square.measure(goal);
        return square.countMarks(goal);
    }

    public int set(int draw, int jam) throws IllegalArgumentException {
        if (draw < 0 || draw > MOST_DRAW || jam < 1 || jam > MOST_JAM) {
            throw new IllegalArgumentException("draw is 0 to 9, jam 1 to 20");
        }
        int before = crowd.draw;
        crowd.draw = draw;
        crowd.patience = jam;
        return before;
    }

    public int field(int x, int y, int what) throws IndexOutOfBoundsException, IllegalArgumentException {
        int f = grid.number(x, y);
        if (f == NONE) {
            throw new IndexOutOfBoundsException("no such field");
        }
        if (what < 0 || what > 3) {
            throw new IllegalArgumentException("what is 0 to 3");
        }
        return fieldFigure(f, what);
    }

    public int far(int goal, int x, int y) throws IndexOutOfBoundsException {
        int f = grid.number(x, y);
        if (!isGoal(goal) || f == NONE) {
            throw new IndexOutOfBoundsException("no such goal or field");
        }
        return square.distance(goal, f);
    }

    public int farthest(int goal) throws IndexOutOfBoundsException {
        if (!isGoal(goal)) {
            throw new IndexOutOfBoundsException("no such goal");
        }
        return square.greatestDistance(goal);
    }

    // ---- walkers

    public int walker(int goal, int pace, int mood, int x, int y)
            throws IndexOutOfBoundsException, IllegalArgumentException, IllegalStateException {
        int f = grid.number(x, y);
        if (!isGoal(goal) || f == NONE) {
            throw new IndexOutOfBoundsException("no such goal or field");
        }
        if (pace < 1 || pace > MOST_PACE || !isMood(mood)) {
            throw new IllegalArgumentException("pace is 1 to 3, mood 0 to 9");
        }
        boolean isOpen = square.isFree(f) && !square.isMarked(goal, f) && crowd.numberOn(f) == NONE;
        if (crowd.count >= MOST_WALKERS || !isOpen) {
            throw new IllegalStateException("no walker can come there");
        }
        return crowd.add(goal, pace, mood, f);
    }

    public int turnTo(int walker, int goal, int mood)
            throws IndexOutOfBoundsException, IllegalArgumentException, IllegalStateException {
        Walker w = crowd.get(walker);
        if (w == null || !isGoal(goal)) {
            throw new IndexOutOfBoundsException("no such walker or goal");
        }
        if (!isMood(mood)) {
            throw new IllegalArgumentException("mood is 0 to 9");
        }
        if (w.isOut() || square.isMarked(goal, w.place)) {
            throw new IllegalStateException("it is out, or at that goal");
        }
        int before = w.goal;
        w.goal = goal;
        w.mood = mood;
        return before;
    }

    public int tick(int ticks) throws IllegalArgumentException {
        if (ticks < 1 || ticks > MOST_TICKS) {
            throw new IllegalArgumentException("ticks is 1 to 20");
        }
        int before = crowd.countOut();
        return crowd.outAfter(ticks) - before;
    }

    public int clock() {
        return crowd.time;
    }

    public int many(int what) throws IllegalArgumentException {
        if (what < 0 || what > 8) {
            throw new IllegalArgumentException("what is 0 to 8");
        }
        jams.find(crowd);
        return crowdFigure(what);
    }

    public int ofWalker(int walker, int what) throws IndexOutOfBoundsException, IllegalArgumentException {
        Walker w = crowd.get(walker);
        if (w == null) {
            throw new IndexOutOfBoundsException("no such walker");
        }
        if (what < 0 || what > 8) {
            throw new IllegalArgumentException("what is 0 to 8");
        }
        return crowd.walkerFigure(w, what);
    }

    public int cost(int walker, int side) throws IndexOutOfBoundsException, IllegalArgumentException {
        Walker w = crowd.get(walker);
        if (w == null || w.isOut()) {
            throw new IndexOutOfBoundsException("no such walker, or it is out");
        }
        if (side < 0 || side > STAY) {
            throw new IllegalArgumentException("side is 0 to 4");
        }
        return crowd.costOf(w, side);
    }

    public int wants(int walker) throws IndexOutOfBoundsException {
        Walker w = crowd.get(walker);
        if (w == null || w.isOut()) {
            throw new IndexOutOfBoundsException("no such walker, or it is out");
        }
        return crowd.bestSide(w);
    }

    public int way(int walker, int k) throws IndexOutOfBoundsException, IllegalArgumentException {
        Walker w = crowd.get(walker);
        if (w == null || w.isOut()) {
            throw new IndexOutOfBoundsException("no such walker, or it is out");
        }
        if (k < 0) {
            throw new IllegalArgumentException("k is below 0");
        }
        return square.fieldOnWay(w.goal, w.place, k);
    }

    public int jam(int walker) throws IndexOutOfBoundsException {
        if (crowd.get(walker) == null) {
            throw new IndexOutOfBoundsException("no such walker");
        }
        jams.find(crowd);
        return jams.sizeAround(walker);
    }

    public double meanSteps() {
        int out = crowd.countOut();
        if (out == 0) {
            return 0.0;
        }
        return (double) crowd.countSteps(true) / (double) out;
    }

    // ---- what would be (nothing is changed)

    public int outIn(int walker, int ticks) throws IndexOutOfBoundsException, IllegalArgumentException {
        if (crowd.get(walker) == null) {
            throw new IndexOutOfBoundsException("no such walker");
        }
        if (!isAhead(ticks)) {
            throw new IllegalArgumentException("ticks is 1 to 60");
        }
        copyToTrial();
        return trialCrowd.ticksTillOut(walker, ticks);
    }

    public int outWith(int ticks, int draw) throws IllegalArgumentException {
        if (!isAhead(ticks) || draw < 0 || draw > MOST_DRAW) {
            throw new IllegalArgumentException("ticks is 1 to 60, draw 0 to 9");
        }
        copyToTrial();
        trialCrowd.draw = draw;
        return trialCrowd.outAfter(ticks);
    }

    public int outBy(int x, int y, int ticks)
            throws IndexOutOfBoundsException, IllegalArgumentException, IllegalStateException {
        int f = grid.number(x, y);
        if (f == NONE) {
            throw new IndexOutOfBoundsException("no such field");
        }
        if (!isAhead(ticks)) {
            throw new IllegalArgumentException("ticks is 1 to 60");
        }
        if (crowd.numberOn(f) != NONE) {
            throw new IllegalStateException("a walker is on it");
        }
        copyToTrial();
        int asItIs = trialCrowd.outAfter(ticks);
        copyToTrial();
        trialSquare.build(f, square.isFree(f));
        trialSquare.measureAll();
        return trialCrowd.outAfter(ticks) - asItIs;
    }

    public int jamIn(int ticks) throws IllegalArgumentException {
        if (!isAhead(ticks)) {
            throw new IllegalArgumentException("ticks is 1 to 60");
        }
        copyToTrial();
        return trialCrowd.ticksTillJam(ticks);
    }

    public int farWith(int goal, int x, int y) throws IndexOutOfBoundsException {
        int f = grid.number(x, y);
        if (!isGoal(goal) || f == NONE) {
            throw new IndexOutOfBoundsException("no such goal or field");
        }
        trialSquare.copyFrom(square);
        trialSquare.build(f, square.isFree(f));
        trialSquare.measure(goal);
        return countOtherwiseFar(goal, f);
    }

    public long digest() {
        jams.find(crowd);
        long d = mix(967L, crowd.time);
        for (int what = 0; what <= 8; what++) {
            d = mix(d, crowdFigure(what));
        }
        for (int goal = 0; goal < GOALS; goal++) {
            d = mix(d, square.greatestDistance(goal));
        }
        for (int i = 0; i < crowd.count; i++) {
            d = mixWalker(d, i);
        }
        for (int f = 0; f < grid.fields; f++) {
            d = mixField(d, f);
        }
        return d;
    }

    // ---- what the calls share

    private void makeNew(int w, int h) {
        grid.shape(w, h);
        square.clear();
        crowd.clear();
    }

    private void copyToTrial() {
        trialSquare.copyFrom(square);
        trialCrowd.copyFrom(crowd);
    }

    private int fieldFigure(int f, int what) {
        switch (what) {
            case 0: return square.isFree(f) ? 0 : 1;
            case 1: return crowd.numberOn(f);
            case 2: return crowd.heatOf(f);
            default: return crowd.countRound(f);
        }
    }

    /** What many() answers; 3 to 5 as the JAMS were found last. */
    private int crowdFigure(int what) {
        switch (what) {
            case 0: return crowd.count;
            case 1: return crowd.countOut();
            case 2: return crowd.countLost();
            case 3: return jams.walkersIn;
            case 4: return jams.count;
            case 5: return jams.greatest();
            case 6: return crowd.countSteps(false);
            case 7: return crowd.heatOf(crowd.hottest());
            default: return crowd.hottest();
        }
    }

    private int countOtherwiseFar(int goal, int but) {
        int found = 0;
        for (int f = 0; f < grid.fields; f++) {
            boolean counts = f != but && square.isFree(f);
            if (counts && square.distance(goal, f) != trialSquare.distance(goal, f)) {
                found++;
            }
        }
        return found;
    }

    private long mixWalker(long start, int number) {
        Walker w = crowd.get(number);
        if (w == null) {
            return start;
        }
        long d = start;
        for (int what = 0; what <= 8; what++) {
            d = mix(d, crowd.walkerFigure(w, what));
        }
        d = mix(d, jams.sizeAround(number));
        if (!w.isOut()) {
            for (int side = 0; side <= STAY; side++) {
                d = mix(d, crowd.costOf(w, side));
            }
        }
        return d;
    }

    private long mixField(long start, int f) {
        long d = start;
        for (int what = 0; what <= 2; what++) {
            d = mix(d, fieldFigure(f, what));
        }
        for (int goal = 0; goal < GOALS; goal++) {
            d = mix(d, square.distance(goal, f));
        }
        return d;
    }

    private static long mix(long d, int v) {
        return d * 31L + v;
    }

    private static boolean isGoal(int goal) {
        return goal >= 0 && goal < GOALS;
    }

    private static boolean isMood(int mood) {
        return mood >= 0 && mood <= MOST_MOOD;
    }

    private static boolean isAhead(int ticks) {
        return ticks >= 1 && ticks <= MOST_TICKS_AHEAD;
    }

    /** Which FIELDS there are, and which are beside each other. */
    private static final class Grid {
        int fields;
        private int width;
        private int height;
        private final int[] near = new int[MOST_FIELDS * ROUND];

        void shape(int w, int h) {
            width = w;
            height = h;
            fields = w * h;
            for (int y = 0; y < h; y++) {
                for (int x = 0; x < w; x++) {
                    link(x, y);
                }
            }
        }

        private void link(int x, int y) {
            int f = number(x, y);
            if (!has(f)) {
                return;
            }
            for (int k = 0; k < ROUND; k++) {
                near[f * ROUND + k] = number(x + STEP_X[k], y + STEP_Y[k]);
            }
        }

        boolean has(int f) {
            return f >= 0 && f < fields && f < MOST_FIELDS;
        }

        /** The NUMBER of a FIELD; NONE if there is no such FIELD. */
        int number(int x, int y) {
            boolean isInside = x >= 0 && x < width && y >= 0 && y < height;
            return isInside ? y * width + x : NONE;
        }

        /** The FIELD beside one, k being a SIDE, or over a corner (4 to 7); NONE without one. */
        int next(int f, int k) {
            boolean isThere = f >= 0 && f < MOST_FIELDS && k >= 0 && k < ROUND;
            return isThere ? near[f * ROUND + k] : NONE;
        }
    }

    /** Where the WALLS are, what is MARKED, and how FAR it is from there. */
    private static final class Square {
        private final Grid grid;
        private final int[] walls = new int[MOST_FIELDS];
        // Bit g is set, where a FIELD is MARKED for the GOAL g.
        private final int[] marks = new int[MOST_FIELDS];
        private final int[] distances = new int[GOALS * MOST_FIELDS];
        private final int[] queue = new int[MOST_FIELDS];

        Square(Grid grid) {
            this.grid = grid;
        }

        void clear() {
            for (int f = 0; f < MOST_FIELDS; f++) {
                walls[f] = 0;
                marks[f] = 0;
            }
            for (int i = 0; i < GOALS * MOST_FIELDS; i++) {
                distances[i] = NONE;
            }
        }

        void copyFrom(Square other) {
            System.arraycopy(other.walls, 0, walls, 0, MOST_FIELDS);
            System.arraycopy(other.marks, 0, marks, 0, MOST_FIELDS);
            System.arraycopy(other.distances, 0, distances, 0, GOALS * MOST_FIELDS);
        }

        boolean isFree(int f) {
            return grid.has(f) && walls[f] == 0;
        }

        boolean isMarked(int goal, int f) {
            return isGoal(goal) && grid.has(f) && (marks[f] & (1 << goal)) != 0;
        }

        /** How FAR a FIELD is from a GOAL; NONE also if there is no such FIELD. */
        int distance(int goal, int f) {
            return isGoal(goal) && grid.has(f) ? distances[goal * MOST_FIELDS + f] : NONE;
        }

        void build(int f, boolean isWall) {
            if (grid.has(f)) {
                walls[f] = isWall ? 1 : 0;
            }
        }

        void turnMark(int goal, int f) {
            if (isGoal(goal) && grid.has(f)) {
                marks[f] ^= 1 << goal;
            }
        }

        int countWalls() {
            int found = 0;
            for (int f = 0; f < grid.fields; f++) {
                if (!isFree(f)) {
                    found++;
                }
            }
            return found;
        }

        int countMarks(int goal) {
            int found = 0;
            for (int f = 0; f < grid.fields; f++) {
                if (isMarked(goal, f)) {
                    found++;
                }
            }
            return found;
        }

        int greatestDistance(int goal) {
            int greatest = NONE;
            for (int f = 0; f < grid.fields; f++) {
                greatest = Math.max(greatest, distance(goal, f));
            }
            return greatest;
        }

        void measureAll() {
            for (int goal = 0; goal < GOALS; goal++) {
                measure(goal);
            }
        }

        /** Finds how FAR all FIELDS are from a GOAL, the nearest ones first. */
        void measure(int goal) {
            int tail = 0;
            for (int f = 0; f < grid.fields; f++) {
                boolean isStart = isFree(f) && isMarked(goal, f);
                keepDistance(goal, f, isStart ? 0 : NONE);
                tail = isStart ? enqueue(f, tail) : tail;
            }
            for (int head = 0; head < tail && head < MOST_FIELDS; head++) {
                tail = spread(goal, queue[head], tail);
            }
        }

        /** Queues what is beside a FIELD and was not reached yet, and returns the queue's new end. */
        private int spread(int goal, int f, int tail) {
            int end = tail;
            for (int side = 0; side < SIDES; side++) {
                int n = grid.next(f, side);
                if (isFree(n) && distance(goal, n) == NONE) {
                    keepDistance(goal, n, distance(goal, f) + 1);
                    end = enqueue(n, end);
                }
            }
            return end;
        }

        private void keepDistance(int goal, int f, int steps) {
            if (isGoal(goal) && grid.has(f)) {
                distances[goal * MOST_FIELDS + f] = steps;
            }
        }

        /** Puts a FIELD at the queue's end, and returns its new end. */
        private int enqueue(int f, int end) {
            if (end < 0 || end >= MOST_FIELDS) {
                return end;
            }
            queue[end] = f;
            return end + 1;
        }

        /** The FIELD behind k steps, each one nearer to the GOAL; NONE if there are not so many. */
        int fieldOnWay(int goal, int from, int k) {
            int steps = distance(goal, from);
            if (k > steps) {
                return NONE;
            }
            int at = from;
            for (int step = 0; step < k; step++) {
                at = nearer(goal, at);
            }
            return at;
        }

        private int nearer(int goal, int f) {
            int want = distance(goal, f) - 1;
            for (int side = 0; side < SIDES; side++) {
                int n = grid.next(f, side);
                if (n != NONE && distance(goal, n) == want) {
                    return n;
                }
            }
            return NONE;
        }
    }

    /** One who walks; made ahead of time, and filled when it comes. */
    private static final class Walker {
        int goal;
        int pace;
        int mood;
        int place;
        int facing;
        int waited;
        int steps;
        int outAt;
        // What it is about in this TICK: whether it has its TURN, and where it WANTS to go.
        boolean hasTurn;
        int side;
        int target;

        void come(int itsGoal, int itsPace, int itsMood, int f) {
            goal = itsGoal;
            pace = itsPace;
            mood = itsMood;
            place = f;
            facing = STAY;
            waited = 0;
            steps = 0;
            outAt = NONE;
        }

        void copyFrom(Walker other) {
            goal = other.goal;
            pace = other.pace;
            mood = other.mood;
            place = other.place;
            facing = other.facing;
            waited = other.waited;
            steps = other.steps;
            outAt = other.outAt;
        }

        boolean isOut() {
            return place == NONE;
        }

        boolean isTurnAt(int time) {
            return !isOut() && pace > 0 && time % pace == 0;
        }
    }

    /** The walkers of a square, the CLOCK, and the HEAT that they leave. */
    private static final class Crowd {
        int count;
        int time;
        int draw = 2;
        int patience = 3;
        private final Grid grid;
        private final Square square;
        private final Walker[] walkers = new Walker[MOST_WALKERS];
        private final int[] on = new int[MOST_FIELDS];
        private final int[] heat = new int[MOST_FIELDS];
        // Which walker is to go to a FIELD in this TICK, as far as one WANTS to.
        private final int[] claims = new int[MOST_FIELDS];

        Crowd(Grid grid, Square square) {
            this.grid = grid;
            this.square = square;
            for (int i = 0; i < MOST_WALKERS; i++) {
                walkers[i] = new Walker();
            }
        }

        void clear() {
            count = 0;
            time = 0;
            for (int f = 0; f < MOST_FIELDS; f++) {
                on[f] = NONE;
                heat[f] = 0;
            }
        }

        void copyFrom(Crowd other) {
            count = other.count;
            time = other.time;
            draw = other.draw;
            patience = other.patience;
            System.arraycopy(other.on, 0, on, 0, MOST_FIELDS);
            System.arraycopy(other.heat, 0, heat, 0, MOST_FIELDS);
            for (int i = 0; i < count; i++) {
                copyWalker(get(i), other.get(i));
            }
        }

        private static void copyWalker(Walker to, Walker from) {
            if (to != null && from != null) {
                to.copyFrom(from);
            }
        }

        /** The walker with a number; null if there is no such walker. */
        Walker get(int number) {
            boolean isThere = number >= 0 && number < count && number < MOST_WALKERS;
            return isThere ? walkers[number] : null;
        }

        /** The number of the walker who is ON a FIELD; NONE without one. */
        int numberOn(int f) {
            return f >= 0 && f < MOST_FIELDS ? on[f] : NONE;
        }

        boolean isAnyoneIn(int left, int top, int right, int bottom) {
            for (int y = top; y <= bottom; y++) {
                for (int x = left; x <= right; x++) {
                    if (numberOn(grid.number(x, y)) != NONE) {
                        return true;
                    }
                }
            }
            return false;
        }

        /** Lets a walker come to a FIELD; NONE if there is no place for it. */
        int add(int goal, int pace, int mood, int f) {
            if (count >= MOST_WALKERS || !grid.has(f)) {
                return NONE;
            }
            int number = count;
            count++;
            Walker w = get(number);
            if (w != null) {
                w.come(goal, pace, mood, f);
            }
            on[f] = number;
            return number;
        }

        int heatOf(int f) {
            return f >= 0 && f < MOST_FIELDS ? heat[f] : 0;
        }

        /** The first FIELD with the greatest HEAT. */
        int hottest() {
            int best = 0;
            for (int f = 1; f < grid.fields; f++) {
                if (heatOf(f) > heatOf(best)) {
                    best = f;
                }
            }
            return best;
        }

        int countOut() {
            int found = 0;
            for (int i = 0; i < count; i++) {
                Walker w = get(i);
                if (w != null && w.isOut()) {
                    found++;
                }
            }
            return found;
        }

        /** How many are ON a FIELD from which no way leads to their GOAL. */
        int countLost() {
            int found = 0;
            for (int i = 0; i < count; i++) {
                Walker w = get(i);
                if (w != null && !w.isOut() && square.distance(w.goal, w.place) == NONE) {
                    found++;
                }
            }
            return found;
        }

        int countSteps(boolean onlyOut) {
            int found = 0;
            for (int i = 0; i < count; i++) {
                Walker w = get(i);
                if (w != null && (!onlyOut || w.isOut())) {
                    found += w.steps;
                }
            }
            return found;
        }

        int walkerFigure(Walker w, int what) {
            switch (what) {
                case 0: return w.goal;
                case 1: return w.pace;
                case 2: return w.mood;
                case 3: return w.place;
                case 4: return w.facing;
                case 5: return w.waited;
                case 6: return w.steps;
                case 7: return w.isOut() ? 0 : square.distance(w.goal, w.place);
                default: return w.outAt;
            }
        }

        int countRound(int f) {
            int found = 0;
            for (int k = 0; k < ROUND; k++) {
                if (numberOn(grid.next(f, k)) != NONE) {
                    found++;
                }
            }
            return found;
        }

        private int countFacing(int f, int side) {
            int found = 0;
            for (int k = 0; k < ROUND; k++) {
                Walker other = get(numberOn(grid.next(f, k)));
                if (other != null && other.facing == side) {
                    found++;
                }
            }
            return found;
        }

        int costOf(Walker w, int side) {
            if (side == STAY) {
                int distance = square.distance(w.goal, w.place);
                return distance == NONE ? CAN_NOT : 10 * distance + w.mood * countRound(w.place);
            }
            int target = grid.next(w.place, side);
            int distance = square.distance(w.goal, target);
            if (distance == NONE || numberOn(target) != NONE) {
                return CAN_NOT;
            }
            // The walker itself is ROUND each FIELD beside its own, but only the others count.
            int others = countRound(target) - 1;
            return 10 * distance + w.mood * others - draw * countFacing(w.place, side);
        }

        /** The SIDE that it WANTS; STAY also if it can WANT nothing. */
        int bestSide(Walker w) {
            int best = STAY;
            int least = CAN_NOT;
            for (int side = 0; side <= STAY; side++) {
                int price = costOf(w, side);
                if (price < least) {
                    least = price;
                    best = side;
                }
            }
            return best;
        }

        /** Lets ticks go by, and returns how many are OUT then. */
        int outAfter(int ticks) {
            for (int t = 0; t < ticks; t++) {
                step();
            }
            return countOut();
        }

        /** Behind how many TICKS a walker is OUT, 0 to ticks; NONE if not within so many. */
        int ticksTillOut(int number, int ticks) {
            Walker w = get(number);
            if (w == null) {
                return NONE;
            }
            for (int t = 0; t <= ticks; t++) {
                if (t > 0) {
                    step();
                }
                if (w.isOut()) {
                    return t;
                }
            }
            return NONE;
        }

        /** Behind how many TICKS there is a JAM, 0 to ticks; NONE if not within so many. */
        int ticksTillJam(int ticks) {
            for (int t = 0; t <= ticks; t++) {
                if (t > 0) {
                    step();
                }
                if (hasJam()) {
                    return t;
                }
            }
            return NONE;
        }

        boolean isJammed(Walker w) {
            return w != null && !w.isOut() && w.waited >= patience;
        }

        private boolean hasJam() {
            for (int i = 0; i < count; i++) {
                if (isJammed(get(i))) {
                    return true;
                }
            }
            return false;
        }

        /** One TICK. All choose before the first one goes: each looks at what was ahead of the TICK. */
        private void step() {
            time++;
            for (int i = 0; i < count; i++) {
                Walker w = get(i);
                if (w != null) {
                    w.hasTurn = w.isTurnAt(time);
                    aim(w, w.hasTurn ? bestSide(w) : STAY);
                }
            }
            for (int i = 0; i < count; i++) {
                claim(i);
            }
            for (int i = 0; i < count; i++) {
                goOrWait(i);
            }
        }

        private void aim(Walker w, int side) {
            w.side = side;
            w.target = side == STAY ? NONE : grid.next(w.place, side);
            if (grid.has(w.target)) {
                claims[w.target] = NONE;
            }
        }

        /** Takes a FIELD from a lower number only if this one WAITED longer. */
        private void claim(int number) {
            Walker w = get(number);
            if (w == null || !grid.has(w.target)) {
                return;
            }
            Walker rival = get(claims[w.target]);
            if (rival == null || w.waited > rival.waited) {
                claims[w.target] = number;
            }
        }

        private void goOrWait(int number) {
            Walker w = get(number);
            if (w == null || !w.hasTurn) {
                return;
            }
            if (grid.has(w.target) && claims[w.target] == number) {
                go(w, number);
            } else {
                w.waited++;
            }
        }

        private void go(Walker w, int number) {
            if (!grid.has(w.place) || !grid.has(w.target)) {
                return;
            }
            on[w.place] = NONE;
            w.facing = w.side;
            w.waited = 0;
            w.steps++;
            heat[w.target]++;
            if (square.isMarked(w.goal, w.target)) {
                w.place = NONE;
                w.outAt = time;
            } else {
                w.place = w.target;
                on[w.target] = number;
            }
        }
    }

    /** The JAMS of a crowd, as they were when they were found last. */
    private static final class Jams {
        int count;
        int walkersIn;
        private final int[] jamOf = new int[MOST_WALKERS];
        private final int[] sizes = new int[MOST_WALKERS];
        private final int[] queue = new int[MOST_WALKERS];

        void find(Crowd crowd) {
            count = 0;
            walkersIn = 0;
            for (int i = 0; i < MOST_WALKERS; i++) {
                jamOf[i] = NONE;
                sizes[i] = 0;
            }
            for (int i = 0; i < crowd.count; i++) {
                if (isNewOne(crowd, i) && count < MOST_WALKERS) {
                    sizes[count] = gather(crowd, i);
                    walkersIn += sizes[count];
                    count++;
                }
            }
        }

        /** Whether a walker is in a JAM, but was not gathered yet. */
        private boolean isNewOne(Crowd crowd, int number) {
            return number >= 0 && number < MOST_WALKERS && jamOf[number] == NONE
                    && crowd.isJammed(crowd.get(number));
        }

        /** Gathers all that are in one JAM with a walker, and returns how many they are. */
        private int gather(Crowd crowd, int first) {
            if (first < 0 || first >= MOST_WALKERS) {
                return 0;
            }
            jamOf[first] = count;
            queue[0] = first;
            int tail = 1;
            for (int head = 0; head < tail && head < MOST_WALKERS; head++) {
                tail = gatherBeside(crowd, queue[head], tail);
            }
            return tail;
        }

        private int gatherBeside(Crowd crowd, int number, int tail) {
            Walker w = crowd.get(number);
            if (w == null) {
                return tail;
            }
            int end = tail;
            for (int side = 0; side < SIDES; side++) {
                int other = crowd.numberOn(crowd.grid.next(w.place, side));
                if (isNewOne(crowd, other) && end < MOST_WALKERS) {
                    jamOf[other] = count;
                    queue[end] = other;
                    end++;
                }
            }
            return end;
        }

        int greatest() {
            int greatest = 0;
            for (int i = 0; i < count && i < MOST_WALKERS; i++) {
                greatest = Math.max(greatest, sizes[i]);
            }
            return greatest;
        }

        /** How many are in a walker's JAM; 0 if it is in none. */
        int sizeAround(int number) {
            if (number < 0 || number >= MOST_WALKERS) {
                return 0;
            }
            int itsJam = jamOf[number];
            return itsJam >= 0 && itsJam < MOST_WALKERS ? sizes[itsJam] : 0;
        }
    }
}
