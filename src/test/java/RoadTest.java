/** Promises 15 to 20: roads. */
public final class RoadTest {
    private static final Class<IndexOutOfBoundsException> INDEX = IndexOutOfBoundsException.class;

    private final Check check = new Check("RoadTest");

    public static void main(String[] args) {
        RoadTest test = new RoadTest();
        test.wrongRoads(new DetourLoom(), 0, 1, 19, 20);
        test.wrongRoads(Looms.row(4, 5), 2, 3, 19, 20);
        test.promise15();
        test.promise16();
        test.promise17();
        test.promise18();
        test.promise19();
        test.promise20();
        test.check.end();
    }

    private void wrongRoads(DetourLoom loom, int... more) {
        int[] all = {-1, Integer.MIN_VALUE, Integer.MAX_VALUE, more[0], more[1], more[2], more[3]};
        for (int no : all) {
            check.dueThrow("15 lengthOf " + no, loom, INDEX, () -> loom.lengthOf(no));
            check.dueThrow("16 wearOf " + no, loom, INDEX, () -> loom.wearOf(no));
            check.dueThrow("17 knotsOf " + no, loom, INDEX, () -> loom.knotsOf(no));
            check.dueThrow("18 closedFor " + no, loom, INDEX, () -> loom.closedFor(no));
            check.dueThrow("19 touristsOn " + no, loom, INDEX, () -> loom.touristsOn(no));
        }
    }

    private void promise15() {
        DetourLoom loom = Looms.row(1, 9);
        check.due("15 of the first", loom.lengthOf(0), 1);
        check.due("15 of the second", loom.lengthOf(1), 9);
        for (int knots = 1; knots <= 5; knots++) {
            loom.mend(1, 1);
            check.due("15 no longer while it is closed", loom.lengthOf(1), 9 + Math.min(3, knots - 1));
            loom.pass(1);
            check.due("15 longer by its knots", loom.lengthOf(1), 9 + Math.min(3, knots));
        }
        check.due("15 not the other one", loom.lengthOf(0), 1);
        loom.cutKnots(1);
        check.due("15 as at first", loom.lengthOf(1), 9);
    }

    private void promise16() {
        DetourLoom loom = Looms.row(3, 2);
        loom.addTourist(0, 2);
        loom.addTourist(1, 0);
        check.due("16 unworn", loom.wearOf(0), 0);
        loom.pass(1);
        check.due("16 two set out on it", loom.wearOf(0), 2);
        check.due("16 nobody on this", loom.wearOf(1), 0);
        loom.pass(2);
        check.due("16 only setting out wears", loom.wearOf(0), 2);
        loom.pass(1);
        check.due("16 one goes on to this", loom.wearOf(1), 1);
    }

    private void promise17() {
        DetourLoom loom = Looms.row(2, 2);
        check.due("17 none", loom.knotsOf(0), 0);
        for (int knots = 1; knots <= 5; knots++) {
            loom.mend(0, 2);
            loom.pass(1);
            check.due("17 no more while it is closed", loom.knotsOf(0), Math.min(3, knots - 1));
            loom.pass(1);
            check.due("17 one more, three at most", loom.knotsOf(0), Math.min(3, knots));
        }
        check.due("17 none on the other one", loom.knotsOf(1), 0);
    }

    private void promise18() {
        DetourLoom loom = Looms.row(2, 1);
        check.due("18 open", loom.closedFor(0), 0);
        loom.mend(0, 20);
        for (int hours = 20; hours >= 0; hours--) {
            check.due("18 closed for", loom.closedFor(0), hours);
            loom.pass(1);
        }
        Looms.addTourists(loom, 5, 1, 2);
        loom.pass(1);
        check.due("18 a worn one", loom.closedFor(1), 4);
        loom.pass(3);
        check.due("18 an hour left", loom.closedFor(1), 1);
        loom.pass(1);
        check.due("18 open", loom.closedFor(1), 0);
    }

    private void promise19() {
        DetourLoom loom = Looms.row(3, 1);
        check.due("19 nobody", loom.touristsOn(0), 0);
        Looms.addTourists(loom, 3, 0, 1);
        loom.addTourist(1, 0);
        loom.addTourist(2, 0);
        check.due("19 nobody yet", loom.touristsOn(0), 0);
        loom.pass(1);
        check.due("19 from both ends", loom.touristsOn(0), 4);
        check.due("19 through in the same hour", loom.touristsOn(1), 0);
        loom.pass(1);
        check.due("19 one more", loom.touristsOn(0), 5);
        loom.pass(1);
        check.due("19 four came in", loom.touristsOn(0), 1);
        loom.pass(1);
        check.due("19 nobody is left", loom.touristsOn(0), 0);
    }

    private void promise20() {
        DetourLoom loom = Looms.withCrossings(3);
        check.due("20 none", loom.mostWorn(), -1);
        for (int i = 0; i < 3; i++) {
            loom.addRoad(i, (i + 1) % 3, 2, 0);
        }
        check.due("20 the smallest number of unworn ones", loom.mostWorn(), 0);
        loom.addTourist(1, 2);
        loom.pass(2);
        check.due("20 the worn one", loom.mostWorn(), 1);
        loom.addTourist(2, 0);
        loom.pass(2);
        check.due("20 the smallest number of two", loom.mostWorn(), 1);
        loom.addTourist(2, 0);
        loom.pass(2);
        check.due("20 the most worn", loom.mostWorn(), 2);
        loom.mend(2, 9);
        check.due("20 not a closed one", loom.mostWorn(), 1);
        loom.mend(1, 9);
        check.due("20 an unworn one that is open", loom.mostWorn(), 0);
        loom.mend(0, 8);
        check.due("20 none is open", loom.mostWorn(), -1);
        loom.pass(8);
        check.due("20 the first that is open again", loom.mostWorn(), 0);
    }
}
