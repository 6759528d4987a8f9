/** Promises 25 to 29: tourists. */
public final class TouristTest {
    private static final Class<IndexOutOfBoundsException> INDEX = IndexOutOfBoundsException.class;

    private final Check check = new Check("TouristTest");

    public static void main(String[] args) {
        TouristTest test = new TouristTest();
        test.wrongTourists(new DetourLoom(), 0);
        DetourLoom loom = Looms.row(4, 5);
        Looms.addTourists(loom, 2, 0, 2);
        test.wrongTourists(loom, 2);
        Looms.addTourists(loom, 10, 2, 0);
        test.wrongTourists(loom, 12);
        test.promises25And26();
        test.promise27();
        test.promise28();
        test.promise28Knots();
        test.promise29();
        test.check.end();
    }

    private void wrongTourists(DetourLoom loom, int first) {
        for (int no : new int[] {first, first + 1, 99, -1, Integer.MIN_VALUE, Integer.MAX_VALUE}) {
            check.dueThrow("25 placeOf " + no, loom, INDEX, () -> loom.placeOf(no));
            check.dueThrow("26 roadOf " + no, loom, INDEX, () -> loom.roadOf(no));
            check.dueThrow("27 dyeOf " + no, loom, INDEX, () -> loom.dyeOf(no));
            check.dueThrow("28 frayOf " + no, loom, INDEX, () -> loom.frayOf(no));
            check.dueThrow("29 hasArrived " + no, loom, INDEX, () -> loom.hasArrived(no));
            check.dueThrow("30 hoursUntilArrived " + no, loom, INDEX, () -> loom.hoursUntilArrived(no));
        }
    }

    private void promises25And26() {
        DetourLoom loom = Looms.row(2, 1, 2);
        loom.addTourist(3, 0);
        int[] places = {3, -1, 2, 1, -1, 0, 0};
        int[] roads = {-1, 2, -1, -1, 0, -1, -1};
        for (int hour = 0; hour < places.length; hour++) {
            check.due("25 placeOf at " + hour, loom.placeOf(0), places[hour]);
            check.due("26 roadOf at " + hour, loom.roadOf(0), roads[hour]);
            loom.pass(1);
        }
        loom.mend(1, 9);
        loom.addTourist(0, 3);
        loom.pass(4);
        check.due("25 stays where no way is open", loom.placeOf(1), 0);
        check.due("26 takes no road before a way is open", loom.roadOf(1), -1);
    }

    private void promise27() {
        int[][] mixed = {{0, 1, 2, 3}, {1, 1, 3, 2}, {2, 3, 2, 1}, {3, 2, 1, 3}};
        for (int first = 0; first < 4; first++) {
            for (int second = 0; second < 4; second++) {
                DetourLoom loom = Looms.withCrossings(3);
                loom.addRoad(0, 1, 2, first);
                loom.addRoad(1, 2, 2, second);
                loom.addTourist(0, 2);
                check.due("27 plain", loom.dyeOf(0), 0);
                loom.pass(1);
                check.due("27 of the first", loom.dyeOf(0), first);
                loom.pass(1);
                check.due("27 still of the first", loom.dyeOf(0), first);
                loom.pass(1);
                check.due("27 of both " + first + " " + second, loom.dyeOf(0), mixed[first][second]);
                loom.pass(5);
                check.due("27 of one who has arrived", loom.dyeOf(0), mixed[first][second]);
            }
        }
    }

    private void promise28() {
        DetourLoom loom = Looms.row(2, 1);
        loom.pass(3);
        loom.addTourist(0, 2);
        loom.mend(1, 4);
        check.due("28 at the beginning", loom.frayOf(0), 0);
        loom.pass(3);
        check.due("28 the distance's hours are free", loom.frayOf(0), 0);
        loom.pass(1);
        check.due("28 sets out when the way is open", loom.frayOf(0), 1);
        check.due("28 on the first road", loom.roadOf(0), 0);
        loom.pass(2);
        check.due("28 on the way", loom.frayOf(0), 3);
        check.due("28 on the longer road", loom.roadOf(0), 1);
        loom.pass(1);
        check.due("28 the hour of arriving as well", loom.frayOf(0), 4);
        check.due("28 arrived", loom.hasArrived(0), true);
        loom.pass(9);
        check.due("28 no more afterwards", loom.frayOf(0), 4);
        DetourLoom shut = Looms.row(1);
        shut.mend(0, 20);
        shut.addTourist(0, 1);
        shut.pass(19);
        check.due("28 of one who waits", shut.frayOf(0), 18);
    }

    private void promise28Knots() {
        DetourLoom loom = Looms.row(4);
        loom.mend(0, 1);
        loom.pass(1);
        loom.addTourist(0, 1);
        loom.cutKnots(0);
        loom.pass(3);
        loom.addTourist(1, 0);
        loom.pass(1);
        check.due("28 quicker than the distance", loom.frayOf(0), 0);
        check.due("28 quicker and in", loom.hasArrived(0), true);
        loom.mend(0, 1);
        loom.pass(9);
        check.due("28 the length when the road was taken", loom.frayOf(1), 0);
        loom.addTourist(0, 1);
        loom.cutKnots(0);
        loom.mend(0, 1);
        loom.pass(9);
        check.due("28 the distance as it was at the beginning", loom.frayOf(2), 0);
        loom.addTourist(0, 1);
        loom.mend(0, 1);
        loom.pass(5);
        check.due("28 one hour more than five", loom.frayOf(3), 0);
        check.due("28 not in yet", loom.hasArrived(3), false);
        loom.pass(4);
        check.due("28 six hours for five", loom.frayOf(3), 1);
    }

    private void promise29() {
        DetourLoom loom = Looms.row(2, 2);
        loom.addTourist(0, 2);
        loom.addTourist(0, 1);
        check.due("29 not at the beginning", loom.hasArrived(1), false);
        loom.pass(1);
        check.due("29 not on the road", loom.hasArrived(1), false);
        loom.pass(1);
        check.due("29 at the goal", loom.hasArrived(1), true);
        check.due("29 not at another crossing", loom.hasArrived(0), false);
        loom.pass(2);
        check.due("29 at the goal", loom.hasArrived(0), true);
        loom.mend(1, 20);
        loom.pass(50);
        check.due("29 for good", loom.hasArrived(1), true);
    }
}
