/**
 * A loom of detours: roads between crossings that wear out and are mended,
 * and tourists who go by the shortest way that is open.
 */
public final class DetourLoom {
    private static final int MOST_CROSSINGS = 10;
    private static final int MOST_ROADS = 20;
    private static final int MOST_TOURISTS = 12;
    private static final int LONGEST_ROAD = 9;
    private static final int MOST_KNOTS = 3;
    private static final int WORN_OUT = 5;
    private static final int MENDING_HOURS = 4;
    private static final int LONGEST_MENDING = 20;
    private static final int LONGEST_PASSING = 50;
    private static final int LONGEST_FORESIGHT = 100;
    private static final int HOURS_BEHIND_MENDING = 24;
    private static final int PLAIN = 0;
    private static final int BLUE = 3;
    private static final int ALL_THREE_DYES = 6;
    private static final int NONE = -1;
    private static final int NO_WAY = 1000000;
    private static final long DIGEST_START = 2153L;

    private final Weave now;
    private final Weave trial;
    private final Ways allWays;

    public DetourLoom() {
        now = new Weave();
        trial = new Weave();
        allWays = new Ways();
    }

    // ---- what there is

    public int addCrossing() throws IllegalStateException {
        if (now.crossings >= MOST_CROSSINGS) {
            throw new IllegalStateException("there are 10 crossings");
        }
        return now.putCrossing();
    }

    public int addRoad(int one, int other, int length, int dye)
            throws IndexOutOfBoundsException, IllegalArgumentException, IllegalStateException {
        requireCrossing(one);
        requireCrossing(other);
        if (one == other) {
            throw new IllegalArgumentException("both crossings are the same");
        }
        if (length < 1 || length > LONGEST_ROAD) {
            throw new IllegalArgumentException("length is not 1 to 9");
        }
        if (dye < PLAIN || dye > BLUE) {
            throw new IllegalArgumentException("dye is not 0 to 3");
        }
        if (now.roads.count >= MOST_ROADS) {
            throw new IllegalStateException("there are 20 roads");
        }
        return now.putRoad(one, other, length, dye);
    }

    public int addTourist(int from, int goal)
            throws IndexOutOfBoundsException, IllegalArgumentException, IllegalStateException {
        requireCrossing(from);
        requireCrossing(goal);
        if (from == goal) {
            throw new IllegalArgumentException("both crossings are the same");
        }
        if (now.tourists.count >= MOST_TOURISTS) {
            throw new IllegalStateException("there are 12 tourists");
        }
        int shortest = distance(from, goal);
        if (shortest < 0) {
            throw new IllegalStateException("no way leads there");
        }
        return now.tourists.put(from, goal, shortest, now.hour);
    }

    public int mend(int road, int hours)
            throws IndexOutOfBoundsException, IllegalArgumentException, IllegalStateException {
        requireRoad(road);
        if (hours < 1 || hours > LONGEST_MENDING) {
            throw new IllegalArgumentException("hours is not 1 to 20");
        }
        if (now.roads.closed[road] > 0) {
            throw new IllegalStateException("the road is closed");
        }
        now.closeRoad(road, hours);
        return now.roads.wear[road];
    }

    public int cutKnots(int road) throws IndexOutOfBoundsException, IllegalStateException {
        requireRoad(road);
        if (now.roads.closed[road] > 0) {
            throw new IllegalStateException("the road is closed");
        }
        if (now.tourists.countOn(road) > 0) {
            throw new IllegalStateException("somebody is on the road");
        }
        return now.untie(road);
    }

    public int pass(int hours) throws IllegalArgumentException {
        requirePassing(hours);
        int before = now.tourists.in;
        for (int i = 0; i < hours; i++) {
            now.letHourGoBy();
        }
        return now.tourists.in - before;
    }

    // ---- the loom

    public int hour() {
        return now.hour;
    }

    public int crossings() {
        return now.crossings;
    }

    public int roads() {
        return now.roads.count;
    }

    public int tourists() {
        return now.tourists.count;
    }

    public int arrived() {
        return now.tourists.in;
    }

    public int closedRoads() {
        return now.roads.countClosed();
    }

    public int allFrayed() {
        return now.tourists.frayOfThoseIn();
    }

    // ---- roads

    public int lengthOf(int road) throws IndexOutOfBoundsException {
        requireRoad(road);
        return now.roads.lengthNow(road);
    }

    public int wearOf(int road) throws IndexOutOfBoundsException {
        requireRoad(road);
        return now.roads.wear[road];
    }

    public int knotsOf(int road) throws IndexOutOfBoundsException {
        requireRoad(road);
        return now.roads.knots[road];
    }

    public int closedFor(int road) throws IndexOutOfBoundsException {
        requireRoad(road);
        return now.roads.closed[road];
    }

    public int touristsOn(int road) throws IndexOutOfBoundsException {
        requireRoad(road);
        return now.tourists.countOn(road);
    }

    public int mostWorn() {
        return now.roads.openWithMostWear();
    }

    // ---- ways

    public int openDistance(int one, int other) throws IndexOutOfBoundsException {
        requireCrossing(one);
        requireCrossing(other);
        now.findOpenWays();
        return now.openWays.sumOrNone(one, other);
    }

    public int distance(int one, int other) throws IndexOutOfBoundsException {
        requireCrossing(one);
        requireCrossing(other);
        allWays.find(now.roads, now.crossings, false);
        return allWays.sumOrNone(one, other);
    }

    public int nextRoad(int from, int goal) throws IndexOutOfBoundsException {
        requireCrossing(from);
        requireCrossing(goal);
        if (from == goal) {
            return NONE;
        }
        now.findOpenWays();
        return now.roadToward(from, goal);
    }

    public int partedPairs() {
        now.findOpenWays();
        return now.openWays.countParted(now.crossings);
    }

    // ---- tourists

    public int placeOf(int tourist) throws IndexOutOfBoundsException {
        requireTourist(tourist);
        return now.tourists.place[tourist];
    }

    public int roadOf(int tourist) throws IndexOutOfBoundsException {
        requireTourist(tourist);
        return now.tourists.road[tourist];
    }

    public int dyeOf(int tourist) throws IndexOutOfBoundsException {
        requireTourist(tourist);
        return now.tourists.dye[tourist];
    }

    public int frayOf(int tourist) throws IndexOutOfBoundsException {
        requireTourist(tourist);
        return now.tourists.frayAt(tourist, now.hour);
    }

    public boolean hasArrived(int tourist) throws IndexOutOfBoundsException {
        requireTourist(tourist);
        return now.tourists.isIn(tourist);
    }

    // ---- what would be

    public int hoursUntilArrived(int tourist) throws IndexOutOfBoundsException {
        requireTourist(tourist);
        foresee(NONE, LONGEST_FORESIGHT);
        return foreseenHoursUntilIn(tourist);
    }

    public int frayedIn(int hours) throws IllegalArgumentException {
        requirePassing(hours);
        foresee(NONE, hours);
        return trial.tourists.frayOfThoseIn();
    }

    public int bestToMend() {
        int best = NONE;
        int then = now.hour + HOURS_BEHIND_MENDING;
        foresee(NONE, HOURS_BEHIND_MENDING);
        int least = trial.tourists.frayOfAll(then);
        for (int road = 0; road < now.roads.count; road++) {
            if (now.roads.closed[road] == 0) {
                foresee(road, HOURS_BEHIND_MENDING);
                int fray = trial.tourists.frayOfAll(then);
                if (fray < least) {
                    least = fray;
                    best = road;
                }
            }
        }
        return best;
    }

    public double meanLength() {
        int count = now.roads.count;
        if (count == 0) {
            return 0.0;
        }
        int sum = 0;
        for (int road = 0; road < count; road++) {
            sum += now.roads.lengthNow(road);
        }
        return (double) sum / (double) count;
    }

    public long digest() {
        long d = DIGEST_START;
        d = woven(d, hour());
        d = woven(d, crossings());
        d = woven(d, roads());
        d = woven(d, tourists());
        d = woven(d, arrived());
        d = woven(d, closedRoads());
        d = woven(d, allFrayed());
        d = woven(d, mostWorn());
        d = woven(d, partedPairs());
        d = woven(d, bestToMend());
        d = digestOfRoads(d);
        return digestOfTourists(d);
    }

    private long digestOfRoads(long before) {
        long d = before;
        for (int road = 0; road < now.roads.count; road++) {
            d = woven(d, now.roads.lengthNow(road));
            d = woven(d, now.roads.wear[road]);
            d = woven(d, now.roads.knots[road]);
            d = woven(d, now.roads.closed[road]);
            d = woven(d, now.tourists.countOn(road));
        }
        return d;
    }

    private long digestOfTourists(long before) {
        long d = before;
        // One look ahead serves all tourists, for it keeps how long each of them took.
        foresee(NONE, LONGEST_FORESIGHT);
        for (int tourist = 0; tourist < now.tourists.count; tourist++) {
            d = woven(d, now.tourists.place[tourist]);
            d = woven(d, now.tourists.road[tourist]);
            d = woven(d, now.tourists.dye[tourist]);
            d = woven(d, now.tourists.frayAt(tourist, now.hour));
            d = woven(d, now.tourists.isIn(tourist) ? 1 : 0);
            d = woven(d, foreseenHoursUntilIn(tourist));
        }
        return d;
    }

    private static long woven(long d, long x) {
        return d * 31L + x;
    }

    /** Makes of the trial what would be, with a road mended from now on if one is given. */
    private void foresee(int mended, int hours) {
        trial.copyFrom(now);
        if (mended >= 0) {
            trial.closeRoad(mended, MENDING_HOURS);
        }
        // Once all are in, no answer that is read from the trial can change any more.
        for (int i = 0; i < hours && trial.tourists.in < trial.tourists.count; i++) {
            trial.letHourGoBy();
        }
    }

    private int foreseenHoursUntilIn(int tourist) {
        if (now.tourists.isIn(tourist)) {
            return 0;
        }
        if (!trial.tourists.isIn(tourist)) {
            return NONE;
        }
        return trial.tourists.began[tourist] + trial.tourists.took[tourist] - now.hour;
    }

    private void requireCrossing(int crossing) {
        if (crossing < 0 || crossing >= now.crossings) {
            throw new IndexOutOfBoundsException("no such crossing");
        }
    }

    private void requireRoad(int road) {
        if (road < 0 || road >= now.roads.count) {
            throw new IndexOutOfBoundsException("no such road");
        }
    }

    private void requireTourist(int tourist) {
        if (tourist < 0 || tourist >= now.tourists.count) {
            throw new IndexOutOfBoundsException("no such tourist");
        }
    }

    private void requirePassing(int hours) {
        if (hours < 1 || hours > LONGEST_PASSING) {
            throw new IllegalArgumentException("hours is not 1 to 50");
        }
    }

    /** Roads, crossings and tourists at one hour: as they are, or as they would be. */
    private static final class Weave {
        final Roads roads = new Roads();
        final Tourists tourists = new Tourists();
        final Ways openWays = new Ways();
        int crossings;
        int hour;
        // Ways change seldom, so they are found again only when they are needed after a change.
        boolean openWaysAreOld;

        void copyFrom(Weave source) {
            roads.copyFrom(source.roads);
            tourists.copyFrom(source.tourists);
            openWays.copyFrom(source.openWays);
            crossings = source.crossings;
            hour = source.hour;
            openWaysAreOld = source.openWaysAreOld;
        }

        int putCrossing() {
            openWaysAreOld = true;
            crossings++;
            return crossings - 1;
        }

        int putRoad(int one, int other, int length, int dye) {
            openWaysAreOld = true;
            return roads.put(one, other, length, dye);
        }

        void closeRoad(int road, int hours) {
            openWaysAreOld = true;
            roads.closed[road] = hours;
        }

        int untie(int road) {
            openWaysAreOld = true;
            int had = roads.knots[road];
            roads.knots[road] = 0;
            return had;
        }

        void findOpenWays() {
            if (openWaysAreOld) {
                openWays.find(roads, crossings, true);
                openWaysAreOld = false;
            }
        }

        /** The open road that begins the shortest open way; the open ways must be found before. */
        int roadToward(int from, int goal) {
            int best = NONE;
            int least = NO_WAY;
            for (int road = 0; road < roads.count; road++) {
                int end = roads.closed[road] > 0 ? NONE : roads.endFrom(road, from);
                if (end >= 0) {
                    int sum = roads.lengthNow(road) + openWays.sums[end * MOST_CROSSINGS + goal];
                    if (sum < least) {
                        least = sum;
                        best = road;
                    }
                }
            }
            return best;
        }

        void letHourGoBy() {
            goOnMending();
            // No road opens or closes while the tourists go, so one look at the ways serves all.
            findOpenWays();
            for (int tourist = 0; tourist < tourists.count; tourist++) {
                if (!tourists.isIn(tourist)) {
                    setOut(tourist);
                    tourists.walk(tourist, hour);
                }
            }
            closeWornRoads();
            hour++;
        }

        private void goOnMending() {
            for (int road = 0; road < roads.count; road++) {
                if (roads.closed[road] > 0) {
                    roads.closed[road]--;
                    if (roads.closed[road] == 0) {
                        roads.reopen(road);
                        openWaysAreOld = true;
                    }
                }
            }
        }

        private void setOut(int tourist) {
            int place = tourists.place[tourist];
            if (place < 0) {
                return;
            }
            int road = roadToward(place, tourists.goal[tourist]);
            if (road >= 0) {
                tourists.take(tourist, road, roads.endFrom(road, place), roads.lengthNow(road));
                tourists.dye[tourist] = mixed(tourists.dye[tourist], roads.dye[road]);
                roads.wear[road]++;
            }
        }

        private void closeWornRoads() {
            for (int road = 0; road < roads.count; road++) {
                if (roads.closed[road] == 0 && roads.wear[road] >= WORN_OUT && tourists.countOn(road) == 0) {
                    closeRoad(road, MENDING_HOURS);
                }
            }
        }

        private static int mixed(int own, int other) {
            if (own == PLAIN || own == other) {
                return other;
            }
            if (other == PLAIN) {
                return own;
            }
            return ALL_THREE_DYES - own - other;
        }
    }

    /** The roads, by their numbers. */
    private static final class Roads {
        final int[] one = new int[MOST_ROADS];
        final int[] other = new int[MOST_ROADS];
        final int[] firstLength = new int[MOST_ROADS];
        final int[] dye = new int[MOST_ROADS];
        final int[] wear = new int[MOST_ROADS];
        final int[] knots = new int[MOST_ROADS];
        final int[] closed = new int[MOST_ROADS];
        int count;

        void copyFrom(Roads source) {
            System.arraycopy(source.one, 0, one, 0, MOST_ROADS);
            System.arraycopy(source.other, 0, other, 0, MOST_ROADS);
            System.arraycopy(source.firstLength, 0, firstLength, 0, MOST_ROADS);
            System.arraycopy(source.dye, 0, dye, 0, MOST_ROADS);
            System.arraycopy(source.wear, 0, wear, 0, MOST_ROADS);
            System.arraycopy(source.knots, 0, knots, 0, MOST_ROADS);
            System.arraycopy(source.closed, 0, closed, 0, MOST_ROADS);
            count = source.count;
        }

        int put(int from, int to, int length, int itsDye) {
            int road = count;
            one[road] = from;
            other[road] = to;
            firstLength[road] = length;
            dye[road] = itsDye;
            count++;
            return road;
        }

        int lengthNow(int road) {
            return firstLength[road] + knots[road];
        }

        /** The crossing to which a road leads from this one; none if it does not begin here. */
        int endFrom(int road, int crossing) {
            if (one[road] == crossing) {
                return other[road];
            }
            if (other[road] == crossing) {
                return one[road];
            }
            return NONE;
        }

        void reopen(int road) {
            wear[road] = 0;
            if (knots[road] < MOST_KNOTS) {
                knots[road]++;
            }
        }

        int countClosed() {
            int sum = 0;
            for (int road = 0; road < count; road++) {
                if (closed[road] > 0) {
                    sum++;
                }
            }
            return sum;
        }

        int openWithMostWear() {
            int best = NONE;
            int most = NONE;
            for (int road = 0; road < count; road++) {
                if (closed[road] == 0 && wear[road] > most) {
                    most = wear[road];
                    best = road;
                }
            }
            return best;
        }
    }

    /** The tourists, by their numbers. */
    private static final class Tourists {
        final int[] place = new int[MOST_TOURISTS];
        final int[] road = new int[MOST_TOURISTS];
        final int[] end = new int[MOST_TOURISTS];
        final int[] toGo = new int[MOST_TOURISTS];
        final int[] goal = new int[MOST_TOURISTS];
        final int[] dye = new int[MOST_TOURISTS];
        final int[] began = new int[MOST_TOURISTS];
        final int[] shortest = new int[MOST_TOURISTS];
        // The hours that one took who has arrived; none before.
        final int[] took = new int[MOST_TOURISTS];
        int count;
        int in;

        void copyFrom(Tourists source) {
            System.arraycopy(source.place, 0, place, 0, MOST_TOURISTS);
            System.arraycopy(source.road, 0, road, 0, MOST_TOURISTS);
            System.arraycopy(source.end, 0, end, 0, MOST_TOURISTS);
            System.arraycopy(source.toGo, 0, toGo, 0, MOST_TOURISTS);
            System.arraycopy(source.goal, 0, goal, 0, MOST_TOURISTS);
            System.arraycopy(source.dye, 0, dye, 0, MOST_TOURISTS);
            System.arraycopy(source.began, 0, began, 0, MOST_TOURISTS);
            System.arraycopy(source.shortest, 0, shortest, 0, MOST_TOURISTS);
            System.arraycopy(source.took, 0, took, 0, MOST_TOURISTS);
            count = source.count;
            in = source.in;
        }

        int put(int from, int to, int sum, int hour) {
            int tourist = count;
            place[tourist] = from;
            road[tourist] = NONE;
            goal[tourist] = to;
            dye[tourist] = PLAIN;
            began[tourist] = hour;
            shortest[tourist] = sum;
            took[tourist] = NONE;
            count++;
            return tourist;
        }

        boolean isIn(int tourist) {
            return took[tourist] >= 0;
        }

        void take(int tourist, int itsRoad, int itsEnd, int hours) {
            place[tourist] = NONE;
            road[tourist] = itsRoad;
            end[tourist] = itsEnd;
            toGo[tourist] = hours;
        }

        void walk(int tourist, int hour) {
            if (road[tourist] < 0) {
                return;
            }
            toGo[tourist]--;
            if (toGo[tourist] > 0) {
                return;
            }
            place[tourist] = end[tourist];
            road[tourist] = NONE;
            if (place[tourist] == goal[tourist]) {
                // The hour of arriving counts as well, though it has not gone by yet.
                took[tourist] = hour + 1 - began[tourist];
                in++;
            }
        }

        int countOn(int itsRoad) {
            int sum = 0;
            for (int tourist = 0; tourist < count; tourist++) {
                if (road[tourist] == itsRoad) {
                    sum++;
                }
            }
            return sum;
        }

        int frayAt(int tourist, int hour) {
            int hours = isIn(tourist) ? took[tourist] : hour - began[tourist];
            return Math.max(0, hours - shortest[tourist]);
        }

        int frayOfAll(int hour) {
            int sum = 0;
            for (int tourist = 0; tourist < count; tourist++) {
                sum += frayAt(tourist, hour);
            }
            return sum;
        }

        int frayOfThoseIn() {
            int sum = 0;
            for (int tourist = 0; tourist < count; tourist++) {
                if (isIn(tourist)) {
                    sum += Math.max(0, took[tourist] - shortest[tourist]);
                }
            }
            return sum;
        }
    }

    /** The least sums of lengths between crossings, in one row; NO_WAY where there is none. */
    private static final class Ways {
        final int[] sums = new int[MOST_CROSSINGS * MOST_CROSSINGS];

        void copyFrom(Ways source) {
            System.arraycopy(source.sums, 0, sums, 0, MOST_CROSSINGS * MOST_CROSSINGS);
        }

        void find(Roads roads, int crossings, boolean openOnly) {
            clear();
            for (int road = 0; road < roads.count; road++) {
                int there = roads.one[road] * MOST_CROSSINGS + roads.other[road];
                int length = roads.lengthNow(road);
                if (length < sums[there] && (!openOnly || roads.closed[road] == 0)) {
                    sums[there] = length;
                    sums[roads.other[road] * MOST_CROSSINGS + roads.one[road]] = length;
                }
            }
            for (int over = 0; over < crossings; over++) {
                goOver(over, crossings);
            }
        }

        private void clear() {
            for (int one = 0; one < MOST_CROSSINGS; one++) {
                for (int other = 0; other < MOST_CROSSINGS; other++) {
                    sums[one * MOST_CROSSINGS + other] = one == other ? 0 : NO_WAY;
                }
            }
        }

        /** Shortens the ways that are shorter over this crossing. */
        private void goOver(int over, int crossings) {
            for (int one = 1; one < crossings; one++) {
                int first = sums[one * MOST_CROSSINGS + over];
                // A way is as long back as forth, so half of the pairs are enough.
                for (int other = 0; first < NO_WAY && other < one; other++) {
                    int sum = first + sums[over * MOST_CROSSINGS + other];
                    if (sum < sums[one * MOST_CROSSINGS + other]) {
                        sums[one * MOST_CROSSINGS + other] = sum;
                        sums[other * MOST_CROSSINGS + one] = sum;
                    }
                }
            }
        }

        int sumOrNone(int one, int other) {
            int sum = sums[one * MOST_CROSSINGS + other];
            return sum < NO_WAY ? sum : NONE;
        }

        int countParted(int crossings) {
            int pairs = 0;
            for (int one = 1; one < crossings; one++) {
                for (int other = 0; other < one; other++) {
                    if (sums[one * MOST_CROSSINGS + other] >= NO_WAY) {
                        pairs++;
                    }
                }
            }
            return pairs;
        }
    }
}
