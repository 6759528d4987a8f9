/** Promises 8 to 14: the loom. */
public final class LoomTest {
    private final Check check = new Check("LoomTest");

    public static void main(String[] args) {
        LoomTest test = new LoomTest();
        test.promise8();
        test.promises9To11();
        test.promise12();
        test.promise13();
        test.promise14();
        test.check.end();
    }

    private void promise8() {
        DetourLoom loom = new DetourLoom();
        loom.pass(1);
        check.due("8 hour", loom.hour(), 1);
        loom.pass(50);
        check.due("8 hour", loom.hour(), 51);
        loom.addCrossing();
        check.due("8 no hour goes by", loom.hour(), 51);
        DetourLoom row = Looms.row(3);
        row.addTourist(0, 1);
        row.hoursUntilArrived(0);
        row.frayedIn(50);
        row.bestToMend();
        row.digest();
        check.due("8 what would be takes no hour", row.hour(), 0);
    }

    private void promises9To11() {
        DetourLoom loom = Looms.row(1, 2, 3);
        check.due("9 crossings", loom.crossings(), 4);
        check.due("10 roads", loom.roads(), 3);
        check.due("11 tourists", loom.tourists(), 0);
        Looms.addTourists(loom, 2, 0, 1);
        check.due("11 tourists", loom.tourists(), 2);
        loom.pass(1);
        check.due("11 those who have arrived count too", loom.tourists(), 2);
        loom.mend(0, 4);
        check.due("10 closed roads count too", loom.roads(), 3);
        check.due("9 crossings", loom.crossings(), 4);
    }

    private void promise12() {
        DetourLoom loom = Looms.row(1, 2);
        check.due("12 nobody", loom.arrived(), 0);
        loom.addTourist(0, 1);
        loom.addTourist(0, 2);
        loom.addTourist(2, 1);
        check.due("12 nobody yet", loom.arrived(), 0);
        loom.pass(1);
        check.due("12 one", loom.arrived(), 1);
        loom.pass(1);
        check.due("12 two", loom.arrived(), 2);
        loom.pass(5);
        check.due("12 three, once each", loom.arrived(), 3);
    }

    private void promise13() {
        DetourLoom loom = Looms.row(1, 2, 3);
        check.due("13 none", loom.closedRoads(), 0);
        loom.mend(0, 1);
        loom.mend(2, 2);
        check.due("13 two", loom.closedRoads(), 2);
        loom.pass(1);
        check.due("13 one", loom.closedRoads(), 1);
        loom.pass(1);
        check.due("13 none", loom.closedRoads(), 0);
        Looms.addTourists(loom, 5, 0, 1);
        loom.pass(1);
        check.due("13 none while somebody is on it", loom.closedRoads(), 0);
        loom.pass(1);
        check.due("13 a worn one", loom.closedRoads(), 1);
    }

    private void promise14() {
        DetourLoom loom = Looms.row(2);
        loom.addTourist(0, 1);
        loom.mend(0, 3);
        Looms.addTourists(loom, 1, 1, 0);
        loom.pass(4);
        check.due("14 those on the way do not count", loom.allFrayed(), 0);
        check.due("14 though they are frayed", loom.frayOf(0), 2);
        loom.pass(1);
        check.due("14 both, the knot's hour too", loom.allFrayed(), 6);
        loom.pass(9);
        check.due("14 no more afterwards", loom.allFrayed(), 6);
        loom.cutKnots(0);
        loom.addTourist(0, 1);
        loom.pass(2);
        check.due("14 one in time adds nothing", loom.allFrayed(), 6);
        DetourLoom quick = Looms.row(3);
        quick.mend(0, 1);
        quick.pass(1);
        quick.addTourist(0, 1);
        quick.cutKnots(0);
        quick.pass(3);
        check.due("14 quicker than the distance is not less than 0", quick.allFrayed(), 0);
        quick.addTourist(0, 1);
        quick.mend(0, 1);
        quick.pass(4);
        check.due("14 the quick one makes up for nobody", quick.allFrayed(), 1);
    }
}
