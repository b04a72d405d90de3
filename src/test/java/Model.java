import java.util.ArrayList;
import java.util.HashMap;
import java.util.HashSet;
import java.util.List;
import java.util.Map;
import java.util.Set;

/**
 * A second reading of the document, as plain as can be: nothing is kept that can be worked out,
 * and nothing is shared with the class that it is held against.
 */
final class Model {
    private static final int[][] SIDES = {{1, 0}, {0, 1}, {-1, 0}, {0, -1}};

    private record At(int x, int y) {
        At side(int s) {
            return new At(x + SIDES[s][0], y + SIDES[s][1]);
        }

        boolean isRound(At o) {
            int dx = Math.abs(x - o.x);
            int dy = Math.abs(y - o.y);
            return Math.max(dx, dy) == 1;
        }

        boolean isBeside(At o) {
            return Math.abs(x - o.x) + Math.abs(y - o.y) == 1;
        }
    }

    private static final class Person {
        int goal;
        int pace;
        int mood;
        At at;
        int facing = 4;
        int waited;
        int steps;
        int outAt = -1;

        Person copy() {
            Person p = new Person();
            p.goal = goal;
            p.pace = pace;
            p.mood = mood;
            p.at = at;
            p.facing = facing;
            p.waited = waited;
            p.steps = steps;
            p.outAt = outAt;
            return p;
        }
    }

    private int width = 10;
    private int height = 8;
    private int time;
    private int draw = 2;
    private int jamFrom = 3;
    private Set<At> walls = new HashSet<>();
    private List<Set<At>> marked = noMarks();
    private List<Person> people = new ArrayList<>();
    private Map<At, Integer> heat = new HashMap<>();

    private static List<Set<At>> noMarks() {
        List<Set<At>> none = new ArrayList<>();
        for (int g = 0; g < 4; g++) {
            none.add(new HashSet<>());
        }
        return none;
    }

    private Model copy() {
        Model m = new Model();
        m.width = width;
        m.height = height;
        m.time = time;
        m.draw = draw;
        m.jamFrom = jamFrom;
        m.walls = new HashSet<>(walls);
        for (int g = 0; g < 4; g++) {
            m.marked.get(g).addAll(marked.get(g));
        }
        for (Person p : people) {
            m.people.add(p.copy());
        }
        m.heat = new HashMap<>(heat);
        return m;
    }

    private boolean isField(At a) {
        return a.x >= 0 && a.x < width && a.y >= 0 && a.y < height;
    }

    private boolean isFree(At a) {
        return isField(a) && !walls.contains(a);
    }

    private int number(At a) {
        return a == null ? -1 : a.y * width + a.x;
    }

    private List<At> fields() {
        List<At> all = new ArrayList<>();
        for (int y = 0; y < height; y++) {
            for (int x = 0; x < width; x++) {
                all.add(new At(x, y));
            }
        }
        return all;
    }

    private Person personOn(At a) {
        for (Person p : people) {
            if (a.equals(p.at)) {
                return p;
            }
        }
        return null;
    }

    /** All that are not NONE FAR, wave by wave. */
    private Map<At, Integer> distances(int goal) {
        Map<At, Integer> found = new HashMap<>();
        Set<At> wave = new HashSet<>();
        for (At a : marked.get(goal)) {
            if (isFree(a)) {
                wave.add(a);
            }
        }
        for (int d = 0; !wave.isEmpty(); d++) {
            Set<At> following = new HashSet<>();
            for (At a : wave) {
                found.put(a, d);
            }
            for (At a : wave) {
                for (int s = 0; s < 4; s++) {
                    At n = a.side(s);
                    if (isFree(n) && !found.containsKey(n)) {
                        following.add(n);
                    }
                }
            }
            wave = following;
        }
        return found;
    }

    private int costOf(Person p, int side, Map<At, Integer> far) {
        At to = side == 4 ? p.at : p.at.side(side);
        if (!far.containsKey(to) || (side != 4 && personOn(to) != null)) {
            return 10000;
        }
        int sum = 10 * far.get(to);
        for (Person other : people) {
            if (other == p || other.at == null) {
                continue;
            }
            if (other.at.isRound(to)) {
                sum += p.mood;
            }
            if (side != 4 && other.at.isRound(p.at) && other.facing == side) {
                sum -= draw;
            }
        }
        return sum;
    }

    private int wanted(Person p) {
        Map<At, Integer> far = distances(p.goal);
        int best = 4;
        for (int side = 3; side >= 0; side--) {
            int c = costOf(p, side, far);
            if (c < 10000 && c <= costOf(p, best, far)) {
                best = side;
            }
        }
        return best;
    }

    private void oneTick() {
        time++;
        Map<Person, Integer> wants = new HashMap<>();
        for (Person p : people) {
            if (p.at != null && time % p.pace == 0) {
                wants.put(p, wanted(p));
            }
        }
        List<Person> going = new ArrayList<>();
        for (Person p : people) {
            if (wants.containsKey(p) && wants.get(p) != 4 && isFirst(p, wants)) {
                going.add(p);
            }
        }
        for (Person p : people) {
            if (going.contains(p)) {
                int side = wants.get(p);
                p.at = p.at.side(side);
                p.facing = side;
                p.waited = 0;
                p.steps++;
                heat.merge(p.at, 1, Integer::sum);
                if (marked.get(p.goal).contains(p.at)) {
                    p.at = null;
                    p.outAt = time;
                }
            } else if (wants.containsKey(p)) {
                p.waited++;
            }
        }
    }

    private boolean isFirst(Person p, Map<Person, Integer> wants) {
        At to = p.at.side(wants.get(p));
        for (Person q : people) {
            if (q == p || !wants.containsKey(q) || wants.get(q) == 4) {
                continue;
            }
            if (q.at.side(wants.get(q)).equals(to)) {
                boolean isAhead = q.waited > p.waited
                        || q.waited == p.waited && people.indexOf(q) < people.indexOf(p);
                if (isAhead) {
                    return false;
                }
            }
        }
        return true;
    }

    private int outNow() {
        int n = 0;
        for (Person p : people) {
            n += p.at == null ? 1 : 0;
        }
        return n;
    }

    private boolean isJammed(Person p) {
        return p.at != null && p.waited >= jamFrom;
    }

    private Set<Person> jamWith(Person p) {
        Set<Person> all = new HashSet<>();
        if (isJammed(p)) {
            all.add(p);
        }
        boolean grew = !all.isEmpty();
        while (grew) {
            grew = false;
            for (Person q : people) {
                if (isJammed(q) && !all.contains(q) && all.stream().anyMatch(o -> o.at.isBeside(q.at))) {
                    all.add(q);
                    grew = true;
                }
            }
        }
        return all;
    }

    private Set<Set<Person>> allJams() {
        Set<Set<Person>> all = new HashSet<>();
        for (Person p : people) {
            if (isJammed(p)) {
                all.add(jamWith(p));
            }
        }
        return all;
    }

    private static void indexIf(boolean isWrong) {
        if (isWrong) {
            throw new IndexOutOfBoundsException();
        }
    }

    private static void argumentIf(boolean isWrong) {
        if (isWrong) {
            throw new IllegalArgumentException();
        }
    }

    private static void stateIf(boolean isWrong) {
        if (isWrong) {
            throw new IllegalStateException();
        }
    }

    private static boolean isNot(int v, int least, int most) {
        return v < least || v > most;
    }

    private boolean noWalker(int w) {
        return isNot(w, 0, people.size() - 1);
    }

    private boolean noneOn(int w) {
        return noWalker(w) || people.get(w).at == null;
    }

    int reset(int w, int h) {
        argumentIf(isNot(w, 2, 14) || isNot(h, 2, 14));
        width = w;
        height = h;
        time = 0;
        walls.clear();
        marked = noMarks();
        people.clear();
        heat.clear();
        return w * h;
    }

    int wall(int x, int y, int toX, int toY, boolean isWall) {
        indexIf(!isField(new At(x, y)) || !isField(new At(toX, toY)));
        List<At> inside = new ArrayList<>();
        for (At a : fields()) {
            boolean isX = a.x >= x && a.x <= toX || a.x <= x && a.x >= toX;
            boolean isY = a.y >= y && a.y <= toY || a.y <= y && a.y >= toY;
            if (isX && isY) {
                stateIf(isWall && personOn(a) != null);
                inside.add(a);
            }
        }
        if (isWall) {
            walls.addAll(inside);
        } else {
            walls.removeAll(inside);
        }
        return walls.size();
    }

    int mark(int goal, int x, int y) {
        At a = new At(x, y);
        indexIf(isNot(goal, 0, 3) || !isField(a));
        stateIf(personOn(a) != null && personOn(a).goal == goal);
        if (!marked.get(goal).remove(a)) {
            marked.get(goal).add(a);
        }
        return marked.get(goal).size();
    }

    int set(int newDraw, int newJam) {
        argumentIf(isNot(newDraw, 0, 9) || isNot(newJam, 1, 20));
        int before = draw;
        draw = newDraw;
        jamFrom = newJam;
        return before;
    }

    int field(int x, int y, int what) {
        At a = new At(x, y);
        indexIf(!isField(a));
        argumentIf(isNot(what, 0, 3));
        if (what == 0) {
            return walls.contains(a) ? 1 : 0;
        }
        if (what == 1) {
            return people.indexOf(personOn(a));
        }
        if (what == 2) {
            return heat.getOrDefault(a, 0);
        }
        return (int) people.stream().filter(p -> p.at != null && p.at.isRound(a)).count();
    }

    int far(int goal, int x, int y) {
        indexIf(isNot(goal, 0, 3) || !isField(new At(x, y)));
        return distances(goal).getOrDefault(new At(x, y), -1);
    }

    int farthest(int goal) {
        indexIf(isNot(goal, 0, 3));
        return distances(goal).values().stream().mapToInt(d -> d).max().orElse(-1);
    }

    int walker(int goal, int pace, int mood, int x, int y) {
        At a = new At(x, y);
        indexIf(isNot(goal, 0, 3) || !isField(a));
        argumentIf(isNot(pace, 1, 3) || isNot(mood, 0, 9));
        stateIf(people.size() == 24 || walls.contains(a) || marked.get(goal).contains(a) || personOn(a) != null);
        Person p = new Person();
        p.goal = goal;
        p.pace = pace;
        p.mood = mood;
        p.at = a;
        people.add(p);
        return people.size() - 1;
    }

    int turnTo(int walker, int goal, int mood) {
        indexIf(noWalker(walker) || isNot(goal, 0, 3));
        argumentIf(isNot(mood, 0, 9));
        Person p = people.get(walker);
        stateIf(p.at == null || marked.get(goal).contains(p.at));
        int before = p.goal;
        p.goal = goal;
        p.mood = mood;
        return before;
    }

    int tick(int ticks) {
        argumentIf(isNot(ticks, 1, 20));
        int before = outNow();
        for (int t = 0; t < ticks; t++) {
            oneTick();
        }
        return outNow() - before;
    }

    int clock() {
        return time;
    }

    int many(int what) {
        argumentIf(isNot(what, 0, 8));
        int most = heat.values().stream().mapToInt(v -> v).max().orElse(0);
        switch (what) {
            case 0: return people.size();
            case 1: return outNow();
            case 2: return (int) people.stream()
                    .filter(p -> p.at != null && !distances(p.goal).containsKey(p.at)).count();
            case 3: return (int) people.stream().filter(this::isJammed).count();
            case 4: return allJams().size();
            case 5: return allJams().stream().mapToInt(Set::size).max().orElse(0);
            case 6: return people.stream().mapToInt(p -> p.steps).sum();
            case 7: return most;
            default: return number(fields().stream()
                    .filter(a -> heat.getOrDefault(a, 0) == most).findFirst().orElse(null));
        }
    }

    int ofWalker(int walker, int what) {
        indexIf(noWalker(walker));
        argumentIf(isNot(what, 0, 8));
        Person p = people.get(walker);
        int far = p.at == null ? 0 : distances(p.goal).getOrDefault(p.at, -1);
        return new int[] {p.goal, p.pace, p.mood, number(p.at), p.facing, p.waited, p.steps, far, p.outAt}[what];
    }

    int cost(int walker, int side) {
        indexIf(noneOn(walker));
        argumentIf(isNot(side, 0, 4));
        Person p = people.get(walker);
        return costOf(p, side, distances(p.goal));
    }

    int wants(int walker) {
        indexIf(noneOn(walker));
        return wanted(people.get(walker));
    }

    int way(int walker, int k) {
        indexIf(noneOn(walker));
        argumentIf(k < 0);
        Person p = people.get(walker);
        Map<At, Integer> far = distances(p.goal);
        if (!far.containsKey(p.at)) {
            return -1;
        }
        List<At> path = new ArrayList<>(List.of(p.at));
        At at = p.at;
        while (far.get(at) > 0) {
            int side = 0;
            while (far.getOrDefault(at.side(side), 1000) != far.get(at) - 1) {
                side++;
            }
            at = at.side(side);
            path.add(at);
        }
        return k < path.size() ? number(path.get(k)) : -1;
    }

    int jam(int walker) {
        indexIf(noWalker(walker));
        return jamWith(people.get(walker)).size();
    }

    double meanSteps() {
        return people.stream().filter(p -> p.at == null).mapToInt(p -> p.steps).average().orElse(0);
    }

    int outIn(int walker, int ticks) {
        indexIf(noWalker(walker));
        argumentIf(isNot(ticks, 1, 60));
        Model m = copy();
        int t = 0;
        while (m.people.get(walker).at != null && t < ticks) {
            m.oneTick();
            t++;
        }
        return m.people.get(walker).at == null ? t : -1;
    }

    int outWith(int ticks, int newDraw) {
        argumentIf(isNot(ticks, 1, 60) || isNot(newDraw, 0, 9));
        Model m = copy();
        m.draw = newDraw;
        return m.outBehind(ticks);
    }

    private int outBehind(int ticks) {
        for (int t = 0; t < ticks; t++) {
            oneTick();
        }
        return outNow();
    }

    int outBy(int x, int y, int ticks) {
        At a = new At(x, y);
        indexIf(!isField(a));
        argumentIf(isNot(ticks, 1, 60));
        stateIf(personOn(a) != null);
        Model m = copy();
        m.wall(x, y, x, y, !walls.contains(a));
        return m.outBehind(ticks) - copy().outBehind(ticks);
    }

    int jamIn(int ticks) {
        argumentIf(isNot(ticks, 1, 60));
        Model m = copy();
        for (int t = 0; t <= ticks; t++) {
            if (!m.allJams().isEmpty()) {
                return t;
            }
            m.oneTick();
        }
        return -1;
    }

    int farWith(int goal, int x, int y) {
        At that = new At(x, y);
        indexIf(isNot(goal, 0, 3) || !isField(that));
        Model m = copy();
        if (!m.walls.remove(that)) {
            m.walls.add(that);
        }
        Map<At, Integer> before = distances(goal);
        Map<At, Integer> then = m.distances(goal);
        int n = 0;
        for (At a : fields()) {
            boolean isOther = !before.getOrDefault(a, -1).equals(then.getOrDefault(a, -1));
            n += isFree(a) && !a.equals(that) && isOther ? 1 : 0;
        }
        return n;
    }

    long digest() {
        List<Integer> v = new ArrayList<>();
        v.add(clock());
        for (int i = 0; i <= 8; i++) {
            v.add(many(i));
        }
        for (int g = 0; g < 4; g++) {
            v.add(farthest(g));
        }
        for (int w = 0; w < people.size(); w++) {
            for (int i = 0; i <= 8; i++) {
                v.add(ofWalker(w, i));
            }
            v.add(jam(w));
            for (int s = 0; s <= 4 && people.get(w).at != null; s++) {
                v.add(cost(w, s));
            }
        }
        List<Map<At, Integer>> far = new ArrayList<>();
        for (int g = 0; g < 4; g++) {
            far.add(distances(g));
        }
        for (At a : fields()) {
            for (int i = 0; i <= 2; i++) {
                v.add(field(a.x, a.y, i));
            }
            for (int g = 0; g < 4; g++) {
                v.add(far.get(g).getOrDefault(a, -1));
            }
        }
        long d = 967;
        for (int one : v) {
            d = d * 31 + one;
        }
        return d;
    }
}
