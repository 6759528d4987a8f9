/** Promises 30 to 34: what would be. */
public final class ForesightTest {
    private static final Class<IllegalArgumentException> ARGUMENT = IllegalArgumentException.class;

    private final Check check = new Check("ForesightTest");

    public static void main(String[] args) {
        ForesightTest test = new ForesightTest();
        test.promise30();
        test.promise30Never();
        test.promise30AtMost100();
        test.promise31();
        test.promise31Wrong();
        test.promise32();
        test.promise32None();
        test.promise32OfSeveral();
        test.promise32Behind24Hours();
        test.promise33();
        test.promise34();
        test.nothingIsChanged();
        test.check.end();
    }

    private void promise30() {
        DetourLoom loom = Looms.row(2, 3);
        loom.addTourist(0, 2);
        loom.addTourist(2, 1);
        for (int hours = 5; hours >= 0; hours--) {
            check.due("30 the first one", loom.hoursUntilArrived(0), hours);
            check.due("30 the second one", loom.hoursUntilArrived(1), Math.max(0, hours - 2));
            loom.pass(1);
        }
        check.due("30 in for good", loom.hoursUntilArrived(0), 0);
        loom.addTourist(0, 1);
        loom.mend(0, 10);
        check.due("30 waits for nine hours, then three", loom.hoursUntilArrived(2), 12);
        Looms.addTourists(loom, 4, 2, 1);
        check.due("30 by a road with three set out on it", loom.hoursUntilArrived(3), 3);
        loom.pass(1);
        loom.addTourist(2, 1);
        check.due("30 still open for one who is there in time", loom.hoursUntilArrived(7), 3);
        loom.pass(3);
        check.due("30 worn out", loom.closedFor(1), 4);
        loom.addTourist(2, 1);
        check.due("30 waits till it is mended", loom.hoursUntilArrived(8), 3 + 4);
    }

    private void promise30Never() {
        DetourLoom loom = Looms.withCrossings(2);
        loom.addRoad(0, 1, 9, 0);
        loom.mend(0, 20);
        loom.addTourist(0, 1);
        check.due("30 as late as can be", loom.hoursUntilArrived(0), 29);
        check.due("30 nothing is changed", loom.closedFor(0), 20);
        check.due("30 nothing is changed", loom.placeOf(0), 0);
    }

    private void promise30AtMost100() {
        DetourLoom loom = Looms.row(9, 9, 9, 9, 9, 9, 9, 9, 9);
        for (int i = 0; i < 3; i++) {
            for (int road = 0; road < 9; road++) {
                loom.mend(road, 1);
            }
            loom.pass(1);
        }
        loom.addTourist(0, 9);
        check.due("30 not by then", loom.hoursUntilArrived(0), -1);
        loom.pass(7);
        check.due("30 a hundred and one", loom.hoursUntilArrived(0), -1);
        loom.pass(1);
        check.due("30 a hundred", loom.hoursUntilArrived(0), 100);
        check.due("30 a hundred, and again", loom.hoursUntilArrived(0), 100);
        loom.pass(50);
        check.due("30 fifty", loom.hoursUntilArrived(0), 50);
        loom.pass(49);
        check.due("30 one", loom.hoursUntilArrived(0), 1);
        check.due("30 in at last", loom.pass(1), 1);
        check.due("30 none", loom.hoursUntilArrived(0), 0);
    }

    private void promise31() {
        DetourLoom loom = Looms.row(2);
        loom.addTourist(0, 1);
        loom.mend(0, 3);
        check.due("31 on the way", loom.frayedIn(4), 0);
        check.due("31 in", loom.frayedIn(5), 3);
        check.due("31 in long since", loom.frayedIn(50), 3);
        check.due("31 nothing is changed", loom.hour(), 0);
        loom.pass(5);
        check.due("31 who is in already", loom.frayedIn(1), 3);
        loom.addTourist(1, 0);
        loom.mend(0, 2);
        check.due("31 the second one is on the way", loom.frayedIn(4), 3);
        check.due("31 both", loom.frayedIn(5), 5);
        check.due("31 nobody", Looms.row(2).frayedIn(1), 0);
        check.due("31 of nothing", new DetourLoom().frayedIn(50), 0);
    }

    private void promise31Wrong() {
        DetourLoom loom = Looms.row(2);
        for (int hours : new int[] {0, 51, -1, Integer.MIN_VALUE, Integer.MAX_VALUE}) {
            check.dueThrow("31 hours " + hours, loom, ARGUMENT, () -> loom.frayedIn(hours));
        }
    }

    /**
     * The second road will close behind the one who is on it, at the hour 6, and open at 10: the
     * four on the first one, who come to its end at 8, must wait an hour, unless it is mended now.
     */
    private static DetourLoom wornBeforeOthers(int... further) {
        int[] lengths = new int[2 + further.length];
        lengths[0] = 5;
        lengths[1] = 3;
        System.arraycopy(further, 0, lengths, 2, further.length);
        DetourLoom loom = Looms.row(lengths);
        Looms.addTourists(loom, 4, 1, 2);
        loom.pass(3);
        loom.addTourist(1, 2);
        Looms.addTourists(loom, 4, 0, lengths.length);
        loom.pass(1);
        return loom;
    }

    private void promise32() {
        DetourLoom loom = wornBeforeOthers();
        check.due("32 an hour's wait and a knot for four", loom.frayedIn(24), 8);
        check.due("32 mended now", loom.bestToMend(), 1);
        loom.mend(1, 4);
        check.due("32 a knot alone for four", loom.frayedIn(24), 4);
        check.due("32 a closed one is not mended", loom.bestToMend(), -1);
        DetourLoom late = wornBeforeOthers();
        late.pass(2);
        check.due("32 too late", late.bestToMend(), -1);
        DetourLoom turned = Looms.withCrossings(3);
        turned.addRoad(2, 1, 3, 0);
        turned.addRoad(1, 0, 5, 0);
        turned.addTourist(0, 2);
        Looms.addTourists(turned, 5, 1, 2);
        check.due("32 all would wait for it", turned.bestToMend(), -1);
        turned.pass(1);
        check.due("32 an hour's wait less for the first one", turned.bestToMend(), 0);
        turned.mend(0, 4);
        check.due("32 with a knot alone", turned.frayedIn(24), 1);
    }

    private void promise32None() {
        check.due("32 of nothing", new DetourLoom().bestToMend(), -1);
        DetourLoom loom = Looms.row(2, 2);
        check.due("32 nobody", loom.bestToMend(), -1);
        loom.addTourist(0, 2);
        check.due("32 all in time", loom.bestToMend(), -1);
        loom.mend(0, 9);
        check.due("32 not better by any", loom.bestToMend(), -1);
        loom.mend(1, 9);
        check.due("32 none is open", loom.bestToMend(), -1);
        loom.pass(40);
        check.due("32 all are in", loom.bestToMend(), -1);
    }

    private void promise32OfSeveral() {
        check.due("32 of two alike the smallest number", twoRows(5, 3, 5, 3).bestToMend(), 1);
        check.due("32 the better of two", twoRows(5, 3, 6, 6).bestToMend(), 3);
        check.due("32 the better of two, if first", twoRows(6, 6, 5, 3).bestToMend(), 1);
    }

    /** Two rows apart; the second road of each will be worn out before one who is on the first. */
    private static DetourLoom twoRows(int one, int two, int three, int four) {
        DetourLoom loom = Looms.withCrossings(6);
        loom.addRoad(0, 1, one, 0);
        loom.addRoad(1, 2, two, 0);
        loom.addRoad(3, 4, three, 0);
        loom.addRoad(4, 5, four, 0);
        Looms.addTourists(loom, 4, 1, 2);
        Looms.addTourists(loom, 4, 4, 5);
        loom.pass(6);
        loom.addTourist(1, 2);
        loom.addTourist(4, 5);
        loom.addTourist(0, 2);
        loom.addTourist(3, 5);
        loom.pass(1);
        return loom;
    }

    private void promise32Behind24Hours() {
        check.due("32 24 hours from now they are in", wornBeforeOthers(9, 6).bestToMend(), 1);
        check.due("32 25 hours from now they are in", wornBeforeOthers(9, 7).bestToMend(), -1);
        DetourLoom loom = Looms.row(9, 9, 3);
        loom.mend(0, 2);
        loom.addTourist(0, 3);
        loom.pass(1);
        check.due("32 in by then, with a fray", loom.frayedIn(24), 2);
        check.due("32 those on the way are frayed too", loom.bestToMend(), -1);
    }

    private void promise33() {
        DetourLoom loom = Looms.withCrossings(3);
        check.dueDouble("33 none", loom.meanLength(), 0.0);
        loom.addRoad(0, 1, 3, 0);
        check.dueDouble("33 one", loom.meanLength(), 3.0);
        loom.addRoad(1, 2, 4, 0);
        check.dueDouble("33 two", loom.meanLength(), 3.5);
        loom.addRoad(1, 2, 9, 0);
        check.dueDouble("33 three", loom.meanLength(), 16.0 / 3.0);
        loom.mend(2, 1);
        check.dueDouble("33 closed ones too", loom.meanLength(), 16.0 / 3.0);
        loom.pass(1);
        check.dueDouble("33 with knots", loom.meanLength(), 17.0 / 3.0);
    }

    private void promise34() {
        long d = 2153;
        for (long x : new long[] {0, 0, 0, 0, 0, 0, 0, -1, 0, -1}) {
            d = d * 31 + x;
        }
        check.due("34 of nothing", new DetourLoom().digest(), d);
        // A new loom for each hour: nothing is promised about one that was called too often.
        for (int hours = 1; hours <= 30; hours++) {
            DetourLoom loom = wornBeforeOthers();
            loom.addCrossing();
            check.due("34 on the way", loom.digest(), digestOf(loom));
            loom.pass(hours);
            check.due("34 after hours", loom.digest(), digestOf(loom));
            loom.mend(0, 20);
            loom.addRoad(0, 1, 9, 3);
            check.due("34 after other calls", loom.digest(), digestOf(loom));
        }
    }

    private static long digestOf(DetourLoom loom) {
        long d = 2153;
        int[] first = {loom.hour(), loom.crossings(), loom.roads(), loom.tourists(), loom.arrived(),
            loom.closedRoads(), loom.allFrayed(), loom.mostWorn(), loom.partedPairs(), loom.bestToMend()};
        for (int x : first) {
            d = d * 31 + x;
        }
        for (int r = 0; r < loom.roads(); r++) {
            int[] road = {loom.lengthOf(r), loom.wearOf(r), loom.knotsOf(r), loom.closedFor(r), loom.touristsOn(r)};
            for (int x : road) {
                d = d * 31 + x;
            }
        }
        for (int t = 0; t < loom.tourists(); t++) {
            int[] tourist = {loom.placeOf(t), loom.roadOf(t), loom.dyeOf(t), loom.frayOf(t),
                loom.hasArrived(t) ? 1 : 0, loom.hoursUntilArrived(t)};
            for (int x : tourist) {
                d = d * 31 + x;
            }
        }
        return d;
    }

    private void nothingIsChanged() {
        for (int hours = 1; hours <= 30; hours++) {
            DetourLoom asked = wornBeforeOthers();
            DetourLoom left = wornBeforeOthers();
            asked.pass(hours);
            left.pass(hours);
            asked.hoursUntilArrived(hours % 9);
            asked.frayedIn(hours);
            asked.bestToMend();
            asked.meanLength();
            asked.digest();
            check.due("30 to 34 nothing is changed", digestOf(asked), digestOf(left));
            check.due("30 to 34 nothing goes otherwise", asked.pass(5), left.pass(5));
            check.due("30 to 34 nothing is changed later", digestOf(asked), digestOf(left));
        }
    }
}
