import java.util.ArrayList;
import java.util.List;

/** The document once more, written another way: to compare the class with, in ModelTest. */
final class Model {
    static final int INDEX = -1001;
    static final int ARGUMENT = -1002;
    static final int STATE = -1003;

    private static final class Road {
        int one;
        int other;
        int first;
        int dye;
        int wear;
        int knots;
        int closed;

        int length() {
            return first + knots;
        }
    }

    private static final class Tourist {
        int at;
        Road on;
        int to;
        int left;
        int goal;
        int dye;
        int hours;
        int due;
        boolean in;

        int fray() {
            return hours > due ? hours - due : 0;
        }
    }

    private final List<Road> roads = new ArrayList<>();
    private final List<Tourist> tourists = new ArrayList<>();
    private int crossings;
    private int hour;

    private Model copy() {
        Model m = new Model();
        m.crossings = crossings;
        m.hour = hour;
        for (Road r : roads) {
            Road c = new Road();
            c.one = r.one;
            c.other = r.other;
            c.first = r.first;
            c.dye = r.dye;
            c.wear = r.wear;
            c.knots = r.knots;
            c.closed = r.closed;
            m.roads.add(c);
        }
        for (Tourist t : tourists) {
            Tourist c = new Tourist();
            c.at = t.at;
            c.on = t.on == null ? null : m.roads.get(roads.indexOf(t.on));
            c.to = t.to;
            c.left = t.left;
            c.goal = t.goal;
            c.dye = t.dye;
            c.hours = t.hours;
            c.due = t.due;
            c.in = t.in;
            m.tourists.add(c);
        }
        return m;
    }

    private boolean noCrossing(int c) {
        return c < 0 || c >= crossings;
    }

    private boolean noRoad(int r) {
        return r < 0 || r >= roads.size();
    }

    private boolean noTourist(int t) {
        return t < 0 || t >= tourists.size();
    }

    /** How far each crossing is from the goal, settled crossing by crossing; -1 where no way is. */
    private int[] from(int goal, boolean openOnly) {
        int[] far = new int[crossings];
        boolean[] settled = new boolean[crossings];
        java.util.Arrays.fill(far, -1);
        far[goal] = 0;
        while (true) {
            int next = -1;
            for (int c = 0; c < crossings; c++) {
                if (!settled[c] && far[c] >= 0 && (next < 0 || far[c] < far[next])) {
                    next = c;
                }
            }
            if (next < 0) {
                return far;
            }
            settled[next] = true;
            for (Road r : roads) {
                if ((r.one == next || r.other == next) && (r.closed == 0 || !openOnly)) {
                    int end = r.one + r.other - next;
                    int sum = far[next] + r.length();
                    if (far[end] < 0 || sum < far[end]) {
                        far[end] = sum;
                    }
                }
            }
        }
    }

    int addCrossing() {
        return crossings == 10 ? STATE : crossings++;
    }

    int addRoad(int one, int other, int length, int dye) {
        if (noCrossing(one) || noCrossing(other)) {
            return INDEX;
        }
        if (one == other || length < 1 || length > 9 || dye < 0 || dye > 3) {
            return ARGUMENT;
        }
        if (roads.size() == 20) {
            return STATE;
        }
        Road r = new Road();
        r.one = one;
        r.other = other;
        r.first = length;
        r.dye = dye;
        roads.add(r);
        return roads.size() - 1;
    }

    int addTourist(int from, int goal) {
        if (noCrossing(from) || noCrossing(goal)) {
            return INDEX;
        }
        if (from == goal) {
            return ARGUMENT;
        }
        if (tourists.size() == 12 || from(goal, false)[from] < 0) {
            return STATE;
        }
        Tourist t = new Tourist();
        t.at = from;
        t.goal = goal;
        t.due = from(goal, false)[from];
        tourists.add(t);
        return tourists.size() - 1;
    }

    int mend(int road, int hours) {
        if (noRoad(road)) {
            return INDEX;
        }
        if (hours < 1 || hours > 20) {
            return ARGUMENT;
        }
        Road r = roads.get(road);
        if (r.closed > 0) {
            return STATE;
        }
        r.closed = hours;
        return r.wear;
    }

    int cutKnots(int road) {
        if (noRoad(road)) {
            return INDEX;
        }
        Road r = roads.get(road);
        if (r.closed > 0 || touristsOn(road) > 0) {
            return STATE;
        }
        int knots = r.knots;
        r.knots = 0;
        return knots;
    }

    int pass(int hours) {
        if (hours < 1 || hours > 50) {
            return ARGUMENT;
        }
        int before = arrived();
        for (int i = 0; i < hours; i++) {
            oneHour();
        }
        return arrived() - before;
    }

    private void oneHour() {
        for (Road r : roads) {
            if (r.closed > 0 && --r.closed == 0) {
                r.wear = 0;
                r.knots = r.knots == 3 ? 3 : r.knots + 1;
            }
        }
        for (Tourist t : tourists) {
            if (!t.in) {
                oneHourOf(t);
            }
        }
        for (int i = 0; i < roads.size(); i++) {
            Road r = roads.get(i);
            if (r.closed == 0 && r.wear >= 5 && touristsOn(i) == 0) {
                r.closed = 4;
            }
        }
        hour++;
    }

    private void oneHourOf(Tourist t) {
        t.hours++;
        if (t.on == null) {
            int road = nextRoad(t.at, t.goal);
            if (road < 0) {
                return;
            }
            t.on = roads.get(road);
            t.to = t.on.one == t.at ? t.on.other : t.on.one;
            t.left = t.on.length();
            t.on.wear++;
            t.dye = mix(t.dye, t.on.dye);
        }
        t.left--;
        if (t.left == 0) {
            t.on = null;
            t.at = t.to;
            t.in = t.at == t.goal;
        }
    }

    private static int mix(int a, int b) {
        switch (10 * Math.min(a, b) + Math.max(a, b)) {
            case 12: return 3;
            case 13: return 2;
            case 23: return 1;
            default: return Math.max(a, b);
        }
    }

    int hour() {
        return hour;
    }

    int crossings() {
        return crossings;
    }

    int roads() {
        return roads.size();
    }

    int tourists() {
        return tourists.size();
    }

    int arrived() {
        return (int) tourists.stream().filter(t -> t.in).count();
    }

    int closedRoads() {
        return (int) roads.stream().filter(r -> r.closed > 0).count();
    }

    int allFrayed() {
        return tourists.stream().filter(t -> t.in).mapToInt(Tourist::fray).sum();
    }

    int lengthOf(int road) {
        return noRoad(road) ? INDEX : roads.get(road).length();
    }

    int wearOf(int road) {
        return noRoad(road) ? INDEX : roads.get(road).wear;
    }

    int knotsOf(int road) {
        return noRoad(road) ? INDEX : roads.get(road).knots;
    }

    int closedFor(int road) {
        return noRoad(road) ? INDEX : roads.get(road).closed;
    }

    int touristsOn(int road) {
        return noRoad(road) ? INDEX : (int) tourists.stream().filter(t -> t.on == roads.get(road)).count();
    }

    int mostWorn() {
        int most = -1;
        for (int i = roads.size() - 1; i >= 0; i--) {
            if (roads.get(i).closed == 0 && (most < 0 || roads.get(i).wear >= roads.get(most).wear)) {
                most = i;
            }
        }
        return most;
    }

    int openDistance(int one, int other) {
        return noCrossing(one) || noCrossing(other) ? INDEX : from(other, true)[one];
    }

    int distance(int one, int other) {
        return noCrossing(one) || noCrossing(other) ? INDEX : from(other, false)[one];
    }

    int nextRoad(int from, int goal) {
        if (noCrossing(from) || noCrossing(goal)) {
            return INDEX;
        }
        int[] far = from(goal, true);
        for (int i = 0; from != goal && i < roads.size(); i++) {
            Road r = roads.get(i);
            if (r.closed == 0 && (r.one == from || r.other == from)) {
                int rest = far[r.one + r.other - from];
                if (rest >= 0 && r.length() + rest == far[from]) {
                    return i;
                }
            }
        }
        return -1;
    }

    int partedPairs() {
        int twice = 0;
        for (int c = 0; c < crossings; c++) {
            for (int far : from(c, true)) {
                twice += far < 0 ? 1 : 0;
            }
        }
        return twice / 2;
    }

    int placeOf(int tourist) {
        return noTourist(tourist) ? INDEX : tourists.get(tourist).on == null ? tourists.get(tourist).at : -1;
    }

    int roadOf(int tourist) {
        return noTourist(tourist) ? INDEX : roads.indexOf(tourists.get(tourist).on);
    }

    int dyeOf(int tourist) {
        return noTourist(tourist) ? INDEX : tourists.get(tourist).dye;
    }

    int frayOf(int tourist) {
        return noTourist(tourist) ? INDEX : tourists.get(tourist).fray();
    }

    int hasArrived(int tourist) {
        return noTourist(tourist) ? INDEX : tourists.get(tourist).in ? 1 : 0;
    }

    int hoursUntilArrived(int tourist) {
        if (noTourist(tourist)) {
            return INDEX;
        }
        Model m = copy();
        for (int hours = 0; hours <= 100; hours++) {
            if (m.tourists.get(tourist).in) {
                return hours;
            }
            m.oneHour();
        }
        return -1;
    }

    int frayedIn(int hours) {
        if (hours < 1 || hours > 50) {
            return ARGUMENT;
        }
        Model m = copy();
        m.pass(hours);
        return m.allFrayed();
    }

    int bestToMend() {
        int best = -1;
        int least = frayBehind(copy());
        for (int i = 0; i < roads.size(); i++) {
            if (roads.get(i).closed == 0) {
                Model m = copy();
                m.mend(i, 4);
                int fray = frayBehind(m);
                if (fray < least) {
                    least = fray;
                    best = i;
                }
            }
        }
        return best;
    }

    private static int frayBehind(Model m) {
        m.pass(24);
        return m.tourists.stream().mapToInt(Tourist::fray).sum();
    }

    double meanLength() {
        return roads.isEmpty() ? 0 : roads.stream().mapToInt(Road::length).sum() / (double) roads.size();
    }

    long digest() {
        List<Integer> all = new ArrayList<>(List.of(hour(), crossings(), roads(), tourists(), arrived()));
        all.addAll(List.of(closedRoads(), allFrayed(), mostWorn(), partedPairs(), bestToMend()));
        for (int r = 0; r < roads(); r++) {
            all.addAll(List.of(lengthOf(r), wearOf(r), knotsOf(r), closedFor(r), touristsOn(r)));
        }
        for (int t = 0; t < tourists(); t++) {
            all.addAll(List.of(placeOf(t), roadOf(t), dyeOf(t), frayOf(t), hasArrived(t), hoursUntilArrived(t)));
        }
        long d = 2153;
        for (int x : all) {
            d = 31 * d + x;
        }
        return d;
    }
}
