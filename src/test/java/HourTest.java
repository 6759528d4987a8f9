/** The four steps of an hour, and their order. */
public final class HourTest {
    private final Check check = new Check("HourTest");

    public static void main(String[] args) {
        HourTest test = new HourTest();
        test.opensBeforeTouristsGo();
        test.setsOutAndWalksInOneHour();
        test.choosesAnewAtEachCrossing();
        test.keepsTheHoursOfItsRoad();
        test.wornRoadsClose();
        test.wornRoadsStayOpenWhileUsed();
        test.wornRoadsThatAreMended();
        test.theHourIsLast();
        test.check.end();
    }

    private void opensBeforeTouristsGo() {
        DetourLoom loom = Looms.row(1);
        loom.addTourist(0, 1);
        loom.mend(0, 2);
        loom.pass(1);
        check.due("7 closed in this hour", loom.placeOf(0), 0);
        loom.pass(1);
        check.due("7 open in this hour, and taken", loom.roadOf(0), 0);
        check.due("7 the wear begins anew", loom.wearOf(0), 1);
        check.due("7 two long by its knot", loom.pass(1), 1);
    }

    private void setsOutAndWalksInOneHour() {
        DetourLoom loom = Looms.row(1, 1);
        loom.addTourist(0, 2);
        check.due("7 through the first", loom.pass(1), 0);
        check.due("7 at the next crossing", loom.placeOf(0), 1);
        check.due("7 one road an hour", loom.wearOf(1), 0);
        check.due("7 through the second", loom.pass(1), 1);
    }

    private void choosesAnewAtEachCrossing() {
        DetourLoom loom = Looms.withCrossings(4);
        loom.addRoad(0, 1, 1, 1);
        loom.addRoad(1, 3, 1, 1);
        loom.addRoad(1, 2, 1, 2);
        loom.addRoad(2, 3, 5, 2);
        loom.addTourist(0, 3);
        loom.pass(1);
        loom.mend(1, 20);
        loom.pass(1);
        check.due("7 the detour", loom.placeOf(0), 2);
        check.due("7 dyed by it", loom.dyeOf(0), 3);
        check.due("7 in by the detour", loom.pass(5), 1);
        check.due("7 red and green, then blue and green", loom.dyeOf(0), 1);
    }

    private void keepsTheHoursOfItsRoad() {
        DetourLoom loom = Looms.row(3);
        loom.addTourist(0, 1);
        loom.pass(1);
        loom.mend(0, 1);
        loom.pass(1);
        check.due("7 longer now", loom.lengthOf(0), 4);
        check.due("7 as many hours as at first", loom.pass(1), 1);
    }

    private void wornRoadsClose() {
        DetourLoom loom = Looms.row(1, 1);
        Looms.addTourists(loom, 4, 0, 1);
        loom.pass(1);
        check.due("7 four are not enough", loom.closedFor(0), 0);
        loom.addTourist(0, 1);
        loom.pass(1);
        check.due("7 five are", loom.closedFor(0), 4);
        check.due("7 the wear stays", loom.wearOf(0), 5);
        check.due("7 the other one is open", loom.closedFor(1), 0);
        loom.pass(3);
        check.due("7 no knot yet", loom.knotsOf(0), 0);
        loom.pass(1);
        check.due("7 open", loom.closedFor(0), 0);
        check.due("7 as new", loom.wearOf(0), 0);
        check.due("7 but for a knot", loom.knotsOf(0), 1);
    }

    private void wornRoadsStayOpenWhileUsed() {
        DetourLoom loom = Looms.row(3);
        Looms.addTourists(loom, 5, 0, 1);
        loom.pass(2);
        check.due("7 five on it", loom.touristsOn(0), 5);
        loom.addTourist(1, 0);
        check.due("7 five come in", loom.pass(1), 5);
        check.due("7 one is on it still", loom.closedFor(0), 0);
        check.due("7 six set out", loom.wearOf(0), 6);
        loom.pass(1);
        check.due("7 still open", loom.closedFor(0), 0);
        loom.pass(1);
        check.due("7 closed when the last is in", loom.closedFor(0), 4);
    }

    private void wornRoadsThatAreMended() {
        DetourLoom loom = Looms.row(3);
        Looms.addTourists(loom, 6, 0, 1);
        loom.pass(2);
        check.due("5 the wear of one that is used", loom.mend(0, 9), 6);
        loom.pass(1);
        check.due("7 a closed one isn't closed anew", loom.closedFor(0), 8);
        loom.pass(8);
        check.due("7 open, and not worn any more", loom.closedFor(0), 0);
        check.due("7 one knot", loom.knotsOf(0), 1);
    }

    private void theHourIsLast() {
        DetourLoom loom = Looms.row(2);
        loom.pass(7);
        loom.addTourist(0, 1);
        loom.pass(2);
        check.due("7 in at", loom.hour(), 9);
        check.due("7 in time", loom.frayOf(0), 0);
        check.due("7 in", loom.hasArrived(0), true);
    }
}
