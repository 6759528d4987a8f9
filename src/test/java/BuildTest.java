/** Promises 1 to 7: what there is. */
public final class BuildTest {
    private static final Class<IndexOutOfBoundsException> INDEX = IndexOutOfBoundsException.class;
    private static final Class<IllegalArgumentException> ARGUMENT = IllegalArgumentException.class;
    private static final Class<IllegalStateException> STATE = IllegalStateException.class;
    private static final int[] NEVER = {-1, Integer.MIN_VALUE, Integer.MAX_VALUE};

    private final Check check = new Check("BuildTest");

    public static void main(String[] args) {
        BuildTest test = new BuildTest();
        test.promise1();
        test.promise2();
        test.promise3();
        test.promise3Wrong();
        test.promise3Order();
        test.promise4();
        test.promise4Wrong();
        test.promise4Order();
        test.promise5();
        test.promise5Wrong();
        test.promise6();
        test.promise6Wrong();
        test.promise7();
        test.check.end();
    }

    private void promise1() {
        DetourLoom loom = new DetourLoom();
        check.due("1 hour", loom.hour(), 0);
        check.due("1 crossings", loom.crossings(), 0);
        check.due("1 roads", loom.roads(), 0);
        check.due("1 tourists", loom.tourists(), 0);
        DetourLoom other = Looms.row(2, 3);
        other.addTourist(0, 2);
        other.pass(3);
        check.due("1 a loom of its own: crossings", loom.crossings(), 0);
        check.due("1 a loom of its own: hour", loom.hour(), 0);
    }

    private void promise2() {
        DetourLoom loom = new DetourLoom();
        for (int i = 0; i < 10; i++) {
            check.due("2 addCrossing", loom.addCrossing(), i);
            check.due("2 crossings", loom.crossings(), i + 1);
        }
        check.dueThrow("2 an eleventh crossing", loom, STATE, () -> loom.addCrossing());
        check.dueThrow("2 once more", loom, STATE, () -> loom.addCrossing());
        check.due("2 crossings", loom.crossings(), 10);
    }

    private void promise3() {
        DetourLoom loom = Looms.withCrossings(10);
        check.due("3 addRoad", loom.addRoad(0, 9, 1, 0), 0);
        check.due("3 addRoad back", loom.addRoad(9, 0, 9, 3), 1);
        check.due("3 addRoad beside", loom.addRoad(0, 9, 5, 2), 2);
        check.due("3 length", loom.lengthOf(0), 1);
        check.due("3 length", loom.lengthOf(1), 9);
        check.due("3 wear", loom.wearOf(1), 0);
        check.due("3 knots", loom.knotsOf(1), 0);
        check.due("3 open", loom.closedFor(1), 0);
        check.due("3 leads there", loom.distance(9, 0), 1);
        for (int i = 3; i < 20; i++) {
            check.due("3 addRoad", loom.addRoad(i % 10, (i + 1) % 10, 1 + i % 9, i % 4), i);
        }
        check.dueThrow("3 a 21st road", loom, STATE, () -> loom.addRoad(0, 1, 1, 0));
        check.due("3 roads", loom.roads(), 20);
    }

    private void promise3Wrong() {
        DetourLoom loom = Looms.withCrossings(3);
        for (int no : new int[] {3, 10, -1, Integer.MIN_VALUE, Integer.MAX_VALUE}) {
            check.dueThrow("3 one " + no, loom, INDEX, () -> loom.addRoad(no, 1, 1, 0));
            check.dueThrow("3 other " + no, loom, INDEX, () -> loom.addRoad(1, no, 1, 0));
            check.dueThrow("3 both " + no, loom, INDEX, () -> loom.addRoad(no, no, 1, 0));
        }
        check.dueThrow("3 the same", loom, ARGUMENT, () -> loom.addRoad(2, 2, 1, 0));
        for (int length : new int[] {0, 10, -1, Integer.MIN_VALUE, Integer.MAX_VALUE}) {
            check.dueThrow("3 length " + length, loom, ARGUMENT, () -> loom.addRoad(0, 1, length, 0));
        }
        for (int dye : new int[] {4, -1, Integer.MIN_VALUE, Integer.MAX_VALUE}) {
            check.dueThrow("3 dye " + dye, loom, ARGUMENT, () -> loom.addRoad(0, 1, 1, dye));
        }
        check.due("3 roads", loom.roads(), 0);
    }

    private void promise3Order() {
        DetourLoom loom = Looms.withCrossings(2);
        check.dueThrow("3 index before length", loom, INDEX, () -> loom.addRoad(0, 2, 0, 9));
        for (int i = 0; i < 20; i++) {
            loom.addRoad(0, 1, 1, 0);
        }
        check.dueThrow("3 index before state", loom, INDEX, () -> loom.addRoad(2, 1, 1, 0));
        check.dueThrow("3 same before state", loom, ARGUMENT, () -> loom.addRoad(1, 1, 1, 0));
        check.dueThrow("3 length before state", loom, ARGUMENT, () -> loom.addRoad(0, 1, 10, 0));
        check.dueThrow("3 dye before state", loom, ARGUMENT, () -> loom.addRoad(0, 1, 1, 4));
    }

    private void promise4() {
        DetourLoom loom = Looms.row(2, 3);
        loom.pass(4);
        check.due("4 addTourist", loom.addTourist(0, 2), 0);
        check.due("4 at the crossing", loom.placeOf(0), 0);
        check.due("4 on no road", loom.roadOf(0), -1);
        check.due("4 plain", loom.dyeOf(0), 0);
        check.due("4 not frayed", loom.frayOf(0), 0);
        check.due("4 not arrived", loom.hasArrived(0), false);
        for (int i = 1; i < 12; i++) {
            check.due("4 addTourist", loom.addTourist(i % 3, (i + 1) % 3), i);
        }
        check.dueThrow("4 a 13th tourist", loom, STATE, () -> loom.addTourist(0, 1));
        check.due("4 tourists", loom.tourists(), 12);
        check.due("4 all come in", loom.pass(50), 12);
        check.dueThrow("4 still 12", loom, STATE, () -> loom.addTourist(0, 1));
    }

    private void promise4Wrong() {
        DetourLoom loom = Looms.row(2);
        loom.addCrossing();
        for (int no : new int[] {3, -1, Integer.MIN_VALUE, Integer.MAX_VALUE}) {
            check.dueThrow("4 from " + no, loom, INDEX, () -> loom.addTourist(no, 1));
            check.dueThrow("4 goal " + no, loom, INDEX, () -> loom.addTourist(1, no));
        }
        check.dueThrow("4 the same", loom, ARGUMENT, () -> loom.addTourist(0, 0));
        check.dueThrow("4 no way", loom, STATE, () -> loom.addTourist(0, 2));
        check.dueThrow("4 no way back", loom, STATE, () -> loom.addTourist(2, 1));
        loom.mend(0, 20);
        check.due("4 a way by a closed road", loom.addTourist(0, 1), 0);
    }

    private void promise4Order() {
        DetourLoom loom = Looms.row(2);
        loom.addCrossing();
        check.dueThrow("4 index before the same", loom, INDEX, () -> loom.addTourist(3, 3));
        check.dueThrow("4 the same before no way", loom, ARGUMENT, () -> loom.addTourist(2, 2));
        Looms.addTourists(loom, 12, 0, 1);
        check.dueThrow("4 index before 12", loom, INDEX, () -> loom.addTourist(0, 3));
        check.dueThrow("4 the same before 12", loom, ARGUMENT, () -> loom.addTourist(1, 1));
    }

    private void promise5() {
        DetourLoom loom = Looms.row(3, 2);
        loom.addTourist(0, 2);
        loom.pass(1);
        check.due("5 its wear", loom.mend(0, 2), 1);
        check.due("5 the wear stays till it is open", loom.wearOf(0), 1);
        check.due("5 closed", loom.closedFor(0), 2);
        check.due("5 who is on it stays on it", loom.roadOf(0), 0);
        loom.pass(1);
        check.due("5 an hour less", loom.closedFor(0), 1);
        check.due("5 who is on it goes on", loom.roadOf(0), 0);
        loom.pass(1);
        check.due("5 open", loom.closedFor(0), 0);
        check.due("5 wear gone", loom.wearOf(0), 0);
        check.due("5 a knot", loom.knotsOf(0), 1);
        check.due("5 longer", loom.lengthOf(0), 4);
        check.due("5 who was on it came to its end", loom.placeOf(0), 1);
        check.due("5 mended again", loom.mend(0, 20), 0);
        check.due("5 the longest time", loom.closedFor(0), 20);
        check.due("5 the other one", loom.mend(1, 1), 0);
        check.due("5 comes in by the road that opens at once", loom.pass(2), 0);
        check.due("5 comes in an hour later for the knot", loom.pass(1), 1);
    }

    private void promise5Wrong() {
        DetourLoom loom = Looms.row(3, 2);
        for (int no : new int[] {2, 20, -1, Integer.MIN_VALUE, Integer.MAX_VALUE}) {
            check.dueThrow("5 road " + no, loom, INDEX, () -> loom.mend(no, 1));
            check.dueThrow("5 index first " + no, loom, INDEX, () -> loom.mend(no, 0));
        }
        for (int hours : new int[] {0, 21, -1, Integer.MIN_VALUE, Integer.MAX_VALUE}) {
            check.dueThrow("5 hours " + hours, loom, ARGUMENT, () -> loom.mend(0, hours));
        }
        loom.mend(0, 1);
        check.dueThrow("5 closed", loom, STATE, () -> loom.mend(0, 1));
        check.dueThrow("5 hours before closed", loom, ARGUMENT, () -> loom.mend(0, 21));
    }

    private void promise6() {
        DetourLoom loom = Looms.row(3);
        check.due("6 none", loom.cutKnots(0), 0);
        for (int i = 0; i < 2; i++) {
            loom.mend(0, 1);
            loom.pass(1);
        }
        check.due("6 longer by two", loom.distance(0, 1), 5);
        check.due("6 two", loom.cutKnots(0), 2);
        check.due("6 none left", loom.knotsOf(0), 0);
        check.due("6 as long as before", loom.lengthOf(0), 3);
        check.due("6 open way as long as before", loom.openDistance(0, 1), 3);
        check.due("6 none again", loom.cutKnots(0), 0);
        for (int i = 0; i < 4; i++) {
            loom.mend(0, 1);
            loom.pass(1);
        }
        Looms.addTourists(loom, 2, 0, 1);
        loom.pass(6);
        check.due("6 three at most", loom.cutKnots(0), 3);
        check.due("6 the wear stays", loom.wearOf(0), 2);
    }

    private void promise6Wrong() {
        DetourLoom loom = Looms.row(3);
        for (int no : new int[] {1, NEVER[0], NEVER[1], NEVER[2]}) {
            check.dueThrow("6 road " + no, loom, INDEX, () -> loom.cutKnots(no));
        }
        loom.mend(0, 1);
        check.dueThrow("6 closed", loom, STATE, () -> loom.cutKnots(0));
        loom.pass(1);
        loom.addTourist(0, 1);
        loom.pass(1);
        check.dueThrow("6 somebody on it", loom, STATE, () -> loom.cutKnots(0));
        loom.pass(2);
        check.dueThrow("6 still on it", loom, STATE, () -> loom.cutKnots(0));
        loom.pass(1);
        check.due("6 nobody on it", loom.cutKnots(0), 1);
    }

    private void promise7() {
        DetourLoom loom = Looms.row(1, 2);
        for (int hours : new int[] {0, 51, -1, Integer.MIN_VALUE, Integer.MAX_VALUE}) {
            check.dueThrow("7 hours " + hours, loom, ARGUMENT, () -> loom.pass(hours));
        }
        check.due("7 nobody", loom.pass(1), 0);
        check.due("7 the hour", loom.hour(), 1);
        loom.addTourist(0, 1);
        loom.addTourist(1, 2);
        loom.addTourist(0, 2);
        check.due("7 one in the first hour", loom.pass(1), 1);
        check.due("7 one in the second", loom.pass(1), 1);
        check.due("7 one in fifty", loom.pass(50), 1);
        check.due("7 the hour", loom.hour(), 53);
        check.due("7 nobody is left", loom.pass(2), 0);
        Looms.addTourists(loom, 3, 2, 0);
        check.due("7 several in one go", loom.pass(3), 3);
    }
}
