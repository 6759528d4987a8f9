/** Promises 21 to 24: ways. */
public final class WayTest {
    private static final Class<IndexOutOfBoundsException> INDEX = IndexOutOfBoundsException.class;

    private final Check check = new Check("WayTest");

    public static void main(String[] args) {
        WayTest test = new WayTest();
        test.wrongCrossings(new DetourLoom(), 0);
        test.wrongCrossings(Looms.row(4, 5), 3);
        test.wrongCrossings(Looms.withCrossings(10), 10);
        test.promise21();
        test.promise22();
        test.promises21And22OverManyCrossings();
        test.promise23();
        test.promise23Ties();
        test.promise24();
        test.check.end();
    }

    private void wrongCrossings(DetourLoom loom, int first) {
        for (int no : new int[] {first, first + 1, -1, Integer.MIN_VALUE, Integer.MAX_VALUE}) {
            for (int there : new int[] {0, no}) {
                check.dueThrow("21 one " + no, loom, INDEX, () -> loom.openDistance(no, there));
                check.dueThrow("21 other " + no, loom, INDEX, () -> loom.openDistance(there, no));
                check.dueThrow("22 one " + no, loom, INDEX, () -> loom.distance(no, there));
                check.dueThrow("22 other " + no, loom, INDEX, () -> loom.distance(there, no));
                check.dueThrow("23 from " + no, loom, INDEX, () -> loom.nextRoad(no, there));
                check.dueThrow("23 goal " + no, loom, INDEX, () -> loom.nextRoad(there, no));
            }
        }
    }

    /** A long road beside two short ones, and a crossing apart. */
    private DetourLoom triangle() {
        DetourLoom loom = Looms.withCrossings(4);
        loom.addRoad(0, 2, 9, 0);
        loom.addRoad(1, 0, 3, 0);
        loom.addRoad(1, 2, 4, 0);
        return loom;
    }

    private void promise21() {
        DetourLoom loom = triangle();
        check.due("21 by two roads", loom.openDistance(0, 2), 7);
        check.due("21 and back", loom.openDistance(2, 0), 7);
        check.due("21 the same one", loom.openDistance(3, 3), 0);
        check.due("21 no way", loom.openDistance(0, 3), -1);
        loom.mend(2, 5);
        check.due("21 round about", loom.openDistance(0, 2), 9);
        check.due("21 round about", loom.openDistance(1, 2), 12);
        loom.mend(0, 3);
        check.due("21 no open way", loom.openDistance(2, 1), -1);
        check.due("21 the same one without a way", loom.openDistance(2, 2), 0);
        loom.pass(3);
        check.due("21 open again with a knot", loom.openDistance(2, 1), 13);
        loom.pass(2);
        check.due("21 both open again", loom.openDistance(2, 1), 5);
        loom.cutKnots(2);
        check.due("21 without a knot", loom.openDistance(2, 1), 4);
        loom.addRoad(3, 2, 1, 0);
        check.due("21 by a new road", loom.openDistance(0, 3), 8);
    }

    private void promise22() {
        DetourLoom loom = triangle();
        loom.mend(0, 9);
        loom.mend(1, 9);
        loom.mend(2, 9);
        check.due("22 closed ones too", loom.distance(0, 2), 7);
        check.due("22 and back", loom.distance(2, 0), 7);
        check.due("22 the same one", loom.distance(1, 1), 0);
        check.due("22 no way", loom.distance(3, 1), -1);
        loom.pass(9);
        check.due("22 with knots", loom.distance(0, 2), 9);
        loom.mend(1, 1);
        loom.pass(1);
        check.due("22 the long one has a knot as well", loom.distance(0, 2), 10);
        loom.addRoad(0, 2, 8, 0);
        check.due("22 the shorter of two beside", loom.distance(0, 2), 8);
        loom.addRoad(0, 2, 9, 0);
        check.due("22 a longer one changes nothing", loom.distance(0, 2), 8);
    }

    private void promises21And22OverManyCrossings() {
        DetourLoom round = Looms.withCrossings(3);
        round.addRoad(0, 1, 9, 0);
        round.addRoad(0, 2, 1, 0);
        round.addRoad(1, 2, 1, 0);
        check.due("21 over the last crossing", round.openDistance(0, 1), 2);
        check.due("22 over the last crossing", round.distance(1, 0), 2);
        DetourLoom loom = Looms.row(9, 9, 9, 9, 9, 9, 9, 9, 9);
        check.due("21 from end to end", loom.openDistance(0, 9), 81);
        check.due("22 from end to end", loom.distance(9, 0), 81);
        for (int i = 0; i < 3; i++) {
            for (int road = 0; road < 9; road++) {
                loom.mend(road, 1);
            }
            loom.pass(1);
        }
        check.due("21 as long as can be", loom.openDistance(9, 0), 108);
        check.due("22 as long as can be", loom.distance(0, 9), 108);
        loom.mend(8, 1);
        check.due("21 parted at the end", loom.openDistance(0, 9), -1);
        check.due("22 not by all roads", loom.distance(0, 9), 108);
    }

    private void promise23() {
        DetourLoom loom = triangle();
        check.due("23 by two roads", loom.nextRoad(0, 2), 1);
        check.due("23 and back", loom.nextRoad(2, 0), 2);
        check.due("23 the same one", loom.nextRoad(0, 0), -1);
        check.due("23 no way", loom.nextRoad(0, 3), -1);
        check.due("23 no road", loom.nextRoad(3, 0), -1);
        loom.mend(2, 2);
        check.due("23 the detour", loom.nextRoad(0, 2), 0);
        check.due("23 back from the way", loom.nextRoad(1, 2), 1);
        loom.mend(0, 5);
        check.due("23 no open way", loom.nextRoad(0, 2), -1);
        check.due("23 but to the other one", loom.nextRoad(0, 1), 1);
        loom.pass(2);
        check.due("23 open again", loom.nextRoad(0, 2), 1);
    }

    private void promise23Ties() {
        DetourLoom loom = Looms.withCrossings(4);
        loom.addRoad(2, 3, 2, 0);
        loom.addRoad(0, 2, 3, 0);
        loom.addRoad(0, 3, 5, 0);
        loom.addRoad(0, 3, 5, 0);
        loom.addRoad(0, 1, 1, 0);
        check.due("23 the smallest of three", loom.nextRoad(0, 3), 1);
        check.due("23 the smallest of three there", loom.nextRoad(3, 0), 0);
        loom.mend(1, 1);
        check.due("23 the smaller of two", loom.nextRoad(0, 3), 2);
        check.due("23 over another crossing", loom.nextRoad(1, 3), 4);
    }

    private void promise24() {
        DetourLoom loom = new DetourLoom();
        check.due("24 none", loom.partedPairs(), 0);
        loom.addCrossing();
        check.due("24 one crossing", loom.partedPairs(), 0);
        loom.addCrossing();
        check.due("24 a pair counts once", loom.partedPairs(), 1);
        loom.addCrossing();
        loom.addCrossing();
        check.due("24 six pairs", loom.partedPairs(), 6);
        loom.addRoad(0, 1, 1, 0);
        check.due("24 five", loom.partedPairs(), 5);
        loom.addRoad(2, 3, 1, 0);
        check.due("24 two and two", loom.partedPairs(), 4);
        loom.addRoad(1, 2, 1, 0);
        check.due("24 all together", loom.partedPairs(), 0);
        loom.mend(0, 2);
        check.due("24 one is parted", loom.partedPairs(), 3);
        loom.pass(2);
        check.due("24 no longer", loom.partedPairs(), 0);
        check.due("24 ten without roads", Looms.withCrossings(10).partedPairs(), 45);
    }
}
