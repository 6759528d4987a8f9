import java.util.function.IntFunction;

/** Every call that takes a crossing, a road or a tourist: the numbers that there are, and those beside them. */
public final class NumberBoundTest {
    private static final Class<IndexOutOfBoundsException> INDEX = IndexOutOfBoundsException.class;
    private static final String NO_CROSSING = "Throws `IndexOutOfBoundsException` if there is no such crossing";
    private static final String NO_ROAD = "Throws `IndexOutOfBoundsException` if there is no such road";
    private static final String NO_TOURIST = "Throws `IndexOutOfBoundsException` if there is no such tourist";

    private interface Call {
        void on(DetourLoom loom, int number);
    }

    private final Check check = new Check("NumberBoundTest");

    public static void main(String[] args) {
        NumberBoundTest test = new NumberBoundTest();
        test.crossingsThatAreBuiltOn();
        test.crossingsThatAreAskedFor();
        test.roads();
        test.tourists();
        test.tellsNumbersOfTheseKinds();
        test.check.end();
    }

    private void crossingsThatAreBuiltOn() {
        check.sentence("Promise 3", NO_CROSSING);
        crossing("addRoad one", 2, (loom, no) -> loom.addRoad(no, no == 0 ? 1 : 0, 1, 0));
        crossing("addRoad other", 2, (loom, no) -> loom.addRoad(no == 0 ? 1 : 0, no, 1, 0));
        check.sentence("Promise 4", NO_CROSSING);
        crossing("addTourist from", 2, (loom, no) -> loom.addTourist(no, no == 0 ? 1 : 0));
        crossing("addTourist goal", 2, (loom, no) -> loom.addTourist(no == 0 ? 1 : 0, no));
    }

    private void crossingsThatAreAskedFor() {
        check.sentence("Promise 21", NO_CROSSING);
        crossing("openDistance one", 1, (loom, no) -> loom.openDistance(no, 0));
        crossing("openDistance other", 1, (loom, no) -> loom.openDistance(0, no));
        crossing("openDistance both", 1, (loom, no) -> loom.openDistance(no, no));
        check.sentence("Promise 22", NO_CROSSING);
        crossing("distance one", 1, (loom, no) -> loom.distance(no, 0));
        crossing("distance other", 1, (loom, no) -> loom.distance(0, no));
        crossing("distance both", 1, (loom, no) -> loom.distance(no, no));
        check.sentence("Promise 23", NO_CROSSING);
        crossing("nextRoad from", 1, (loom, no) -> loom.nextRoad(no, 0));
        crossing("nextRoad goal", 1, (loom, no) -> loom.nextRoad(0, no));
        crossing("nextRoad both", 1, (loom, no) -> loom.nextRoad(no, no));
    }

    private void roads() {
        check.sentence("Promise 5", NO_ROAD);
        road("mend", (loom, no) -> loom.mend(no, 1));
        check.sentence("Promise 6", NO_ROAD);
        road("cutKnots", (loom, no) -> loom.cutKnots(no));
        check.sentence("Promise 15", NO_ROAD);
        road("lengthOf", (loom, no) -> loom.lengthOf(no));
        check.sentence("Promise 16", NO_ROAD);
        road("wearOf", (loom, no) -> loom.wearOf(no));
        check.sentence("Promise 17", NO_ROAD);
        road("knotsOf", (loom, no) -> loom.knotsOf(no));
        check.sentence("Promise 18", NO_ROAD);
        road("closedFor", (loom, no) -> loom.closedFor(no));
        check.sentence("Promise 19", NO_ROAD);
        road("touristsOn", (loom, no) -> loom.touristsOn(no));
    }

    private void tourists() {
        check.sentence("Promise 25", NO_TOURIST);
        tourist("placeOf", (loom, no) -> loom.placeOf(no));
        check.sentence("Promise 26", NO_TOURIST);
        tourist("roadOf", (loom, no) -> loom.roadOf(no));
        check.sentence("Promise 27", NO_TOURIST);
        tourist("dyeOf", (loom, no) -> loom.dyeOf(no));
        check.sentence("Promise 28", NO_TOURIST);
        tourist("frayOf", (loom, no) -> loom.frayOf(no));
        check.sentence("Promise 29", NO_TOURIST);
        tourist("hasArrived", (loom, no) -> loom.hasArrived(no));
        check.sentence("Promise 30", NO_TOURIST);
        tourist("hoursUntilArrived", (loom, no) -> loom.hoursUntilArrived(no));
    }

    private void tellsNumbersOfTheseKinds() {
        check.sentence("Promise 21", NO_CROSSING);
        check.refused("a road's number", () -> ofEachKind(), INDEX, loom -> loom.openDistance(0, 3));
        check.sentence("Promise 15", NO_ROAD);
        check.taken("more roads than crossings", ofEachKind(), loom -> loom.lengthOf(3));
        check.sentence("Promise 25", NO_TOURIST);
        check.refused("a crossing's number", () -> ofEachKind(), INDEX, loom -> loom.placeOf(1));
    }

    /** What there is of one kind says nothing of another: two crossings, four roads, one tourist. */
    private static DetourLoom ofEachKind() {
        DetourLoom loom = Looms.beside(4, 3);
        loom.addTourist(0, 1);
        return loom;
    }

    private void crossing(String what, int least, Call call) {
        for (int count = 0; count <= 10; count++) {
            numbers(what, NumberBoundTest::rowOf, count, least, call);
        }
    }

    private void road(String what, Call call) {
        for (int count : new int[] {0, 1, 2, 19, 20}) {
            numbers(what, c -> Looms.beside(c, 4), count, 1, call);
        }
    }

    private void tourist(String what, Call call) {
        for (int count : new int[] {0, 1, 2, 11, 12}) {
            numbers(what, Looms::withTourists, count, 1, call);
        }
    }

    private static DetourLoom rowOf(int crossings) {
        DetourLoom loom = Looms.withCrossings(crossings);
        for (int i = 1; i < crossings; i++) {
            loom.addRoad(i - 1, i, i, 0);
        }
        return loom;
    }

    /** The first and the last number are taken where there are so many; those beside them never. */
    private void numbers(String what, IntFunction<DetourLoom> made, int count, int least, Call call) {
        if (count >= least) {
            for (int no : new int[] {0, count - 1}) {
                check.taken(what + " " + no + " of " + count, made.apply(count), loom -> call.on(loom, no));
            }
        }
        for (int no : new int[] {-1, count, Integer.MIN_VALUE, Integer.MAX_VALUE}) {
            check.refused(what + " " + no + " of " + count, () -> made.apply(count), INDEX,
                loom -> call.on(loom, no));
        }
    }
}
