import java.math.BigInteger;
import java.util.ArrayList;
import java.util.List;
import java.util.function.Consumer;
import java.util.function.Supplier;

/** What would be (promises 30 to 34): the first and the last hour, none, all, and the same as what comes. */
public final class ForesightBoundTest {
    private static final Class<IllegalArgumentException> ARGUMENT = IllegalArgumentException.class;
    private static final BigInteger TWO_TO_64 = BigInteger.ONE.shiftLeft(64);

    private final Check check = new Check("ForesightBoundTest");

    public static void main(String[] args) {
        ForesightBoundTest test = new ForesightBoundTest();
        test.noneIfSoNow();
        test.atMostAHundred();
        test.notByThen();
        test.ifNothingElseIsDone();
        test.hoursOfFrayedIn();
        test.thoseInBehindTheLastHour();
        test.frayedInOfNone();
        test.noneToMend();
        test.noneBetterThanWithout();
        test.theBestOfTwenty();
        test.theBestIsTheOneThatIs();
        test.nothingIsChanged();
        test.meanOfNone();
        test.meanOfOneToTwenty();
        test.digestOfANewOne();
        test.digestOfFullOnes();
        test.digestCountsOneOrZero();
        test.check.end();
    }

    private void noneIfSoNow() {
        check.sentence("Promise 30", "0 if so now, at most 100");
        for (int tourist : new int[] {0, 11}) {
            DetourLoom loom = Looms.row(1);
            Looms.addTourists(loom, 12, 0, 1);
            check.due("in an hour", loom.hoursUntilArrived(tourist), 1);
            loom.pass(1);
            check.due("now", loom.hoursUntilArrived(tourist), 0);
            loom.pass(50);
            check.due("now and long since", loom.hoursUntilArrived(tourist), 0);
        }
    }

    private void atMostAHundred() {
        check.sentence("Promise 30", "0 if so now, at most 100");
        DetourLoom loom = farAway(12);
        loom.pass(8);
        for (int hours = 100; hours >= 0; hours--) {
            check.due("the last one", loom.hoursUntilArrived(11), hours);
            check.due("the first one", loom.hoursUntilArrived(0), hours);
            loom.pass(1);
        }
    }

    private void notByThen() {
        check.sentence("Promise 30", "-1 if not by then (nothing is changed).");
        DetourLoom loom = farAway(12);
        for (int hours = 108; hours > 100; hours--) {
            check.due("in " + hours + " the last one", loom.hoursUntilArrived(11), -1);
            check.due("in " + hours + " the first one", loom.hoursUntilArrived(0), -1);
            check.due("the hour", loom.hour(), 3 + 108 - hours);
            loom.pass(1);
        }
        check.due("in a hundred", loom.hoursUntilArrived(0), 100);
        DetourLoom both = farAway(1);
        both.addTourist(8, 9);
        check.due("one far off, and not by then", both.hoursUntilArrived(0), -1);
        check.due("one nearby, and soon", both.hoursUntilArrived(1), 12);
    }

    /** Nine roads of twelve, which is as far as can be: 108 hours. */
    private static DetourLoom farAway(int tourists) {
        DetourLoom loom = Looms.row(9, 9, 9, 9, 9, 9, 9, 9, 9);
        for (int times = 0; times < 3; times++) {
            Looms.mendAll(loom, 1);
            loom.pass(1);
        }
        Looms.addTourists(loom, tourists, 0, 9);
        return loom;
    }

    private void ifNothingElseIsDone() {
        check.sentence("Promise 30", "Returns in how many hours this one has arrived, if nothing else is done");
        for (int hours = 0; hours <= 40; hours++) {
            int passed = hours;
            foreseenAsItComes(() -> passed(Looms.full(), passed));
            foreseenAsItComes(() -> passed(Looms.withTourists(12), passed));
            foreseenAsItComes(() -> someMended(passed));
        }
    }

    private static DetourLoom passed(DetourLoom loom, int hours) {
        if (hours > 0) {
            loom.pass(hours);
        }
        return loom;
    }

    /** A full loom of which every third road was mended a while ago. */
    private static DetourLoom someMended(int hours) {
        DetourLoom loom = Looms.full();
        for (int road = hours % 3; road < 20; road += 3) {
            loom.mend(road, 1 + road);
        }
        return passed(loom, hours);
    }

    private void foreseenAsItComes(Supplier<DetourLoom> made) {
        DetourLoom asked = made.get();
        // The ways are asked for first, so that what was found for them can't mislead the foresight.
        asked.partedPairs();
        int count = asked.tourists();
        for (int tourist = 0; tourist < count; tourist++) {
            DetourLoom loom = made.get();
            int due = -1;
            for (int hours = 0; hours <= 100 && due < 0; hours++) {
                due = loom.hasArrived(tourist) ? hours : -1;
                loom.pass(1);
            }
            check.due("tourist " + tourist, asked.hoursUntilArrived(tourist), due);
        }
    }

    private void hoursOfFrayedIn() {
        check.sentence("Promise 31", "Throws `IllegalArgumentException` if hours is not 1 to 50");
        for (int hours : new int[] {0, 51, -1, Integer.MIN_VALUE, Integer.MAX_VALUE}) {
            check.refused("hours " + hours, Looms::full, ARGUMENT, loom -> loom.frayedIn(hours));
            check.refused("hours of nothing " + hours, DetourLoom::new, ARGUMENT, loom -> loom.frayedIn(hours));
        }
        check.sentence("Promise 31", "Returns by how much all who have arrived then are frayed, added, "
            + "if nothing else is done (nothing is changed).");
        DetourLoom asked = someMended(2);
        DetourLoom comes = someMended(2);
        for (int hours = 1; hours <= 50; hours++) {
            comes.pass(1);
            check.due("in " + hours, asked.frayedIn(hours), comes.allFrayed());
        }
        check.tell(comes.allFrayed() > 0, "nobody is frayed");
        check.due("nothing is changed", asked.hour(), 2);
    }

    private void thoseInBehindTheLastHour() {
        check.sentence("Promise 31", "all who have arrived then");
        DetourLoom soon = Looms.row(1);
        Looms.knot(soon, 0, 1);
        soon.addTourist(0, 1);
        soon.mend(0, 1);
        soon.pass(2);
        check.due("in with the first hour", soon.frayedIn(1), 1);
        check.due("not before", soon.allFrayed(), 0);
        DetourLoom late = Looms.row(9, 9, 9, 9, 9);
        late.mend(4, 6);
        late.addTourist(0, 5);
        check.due("in behind five hours, 45, and a knot, not in fifty", late.frayedIn(50), 0);
        late.pass(1);
        check.due("in with the fiftieth hour", late.frayedIn(50), 6);
        check.due("not in forty-nine", late.frayedIn(49), 0);
    }

    private void frayedInOfNone() {
        check.sentence("Promise 31", "Returns by how much all who have arrived then are frayed, added");
        for (int hours : new int[] {1, 50}) {
            check.due("of nothing", new DetourLoom().frayedIn(hours), 0);
            check.due("of nobody", Looms.beside(20, 9).frayedIn(hours), 0);
        }
        DetourLoom twelve = Looms.row(9);
        twelve.mend(0, 20);
        Looms.addTourists(twelve, 12, 0, 1);
        check.due("of twelve who are not in", twelve.frayedIn(28), 0);
        check.due("of twelve who are", twelve.frayedIn(29), 12 * 20);
        check.due("and stay", twelve.frayedIn(50), 12 * 20);
    }

    private void noneToMend() {
        check.sentence("Promise 32", "-1 if none is open");
        check.due("without crossings", new DetourLoom().bestToMend(), -1);
        check.due("without roads", Looms.withCrossings(10).bestToMend(), -1);
        DetourLoom loom = wornBeforeOthers(0);
        Looms.mendAll(loom, 20);
        check.due("all closed", loom.bestToMend(), -1);
        DetourLoom one = wornBeforeOthers(0);
        one.mend(1, 20);
        check.due("a closed one is not mended", one.bestToMend(), -1);
    }

    private void noneBetterThanWithout() {
        check.sentence("Promise 32", "or by none they are frayed less than without");
        check.due("nobody", Looms.beside(20, 9).bestToMend(), -1);
        DetourLoom loom = Looms.row(3, 3);
        loom.addTourist(0, 1);
        check.due("as frayed with the second one mended", loom.bestToMend(), -1);
        loom.pass(3);
        check.due("as frayed with any", loom.bestToMend(), -1);
        check.due("the best one", wornBeforeOthers(0).bestToMend(), 1);
        check.due("too late for it", passed(wornBeforeOthers(0), 2).bestToMend(), -1);
    }

    private void theBestOfTwenty() {
        check.sentence("Promise 32", "of several the smallest number");
        for (int before = 0; before <= 18; before++) {
            check.due("with " + before + " before it", wornBeforeOthers(before).bestToMend(), before + 1);
        }
    }

    /**
     * A road of five and one of three, behind others that nobody takes: the last one will be worn out
     * before four on the first come to it, unless it is mended now.
     */
    private static DetourLoom wornBeforeOthers(int before) {
        DetourLoom loom = Looms.withCrossings(5);
        for (int road = 0; road < before; road++) {
            loom.addRoad(3, 4, 1, 0);
        }
        loom.addRoad(0, 1, 5, 0);
        loom.addRoad(1, 2, 3, 0);
        Looms.addTourists(loom, 4, 1, 2);
        loom.pass(3);
        loom.addTourist(1, 2);
        Looms.addTourists(loom, 4, 0, 2);
        loom.pass(1);
        return loom;
    }

    private void theBestIsTheOneThatIs() {
        check.sentence("Promise 32", "that all tourists together are frayed the least behind 24 hours");
        int mended = 0;
        for (int hours = 0; hours <= 24; hours++) {
            int passed = hours;
            mended += bestAsItComes(() -> passed(Looms.full(), passed));
            mended += bestAsItComes(() -> passed(wornBeforeOthers(18), passed));
            mended += bestAsItComes(() -> someMended(passed));
            mended += bestAsItComes(() -> usedByMany(passed));
        }
        check.tell(mended > 3, "only " + mended + " had a road that had best be mended");
    }

    /** Two rows of short roads, with tourists of each at all hours. */
    private static DetourLoom usedByMany(int hours) {
        DetourLoom loom = Looms.row(2, 3, 2, 3, 2);
        for (int i = 0; i < 5; i++) {
            loom.addRoad(i, i + 1, 5, i % 4);
        }
        for (int i = 0; i < 12; i++) {
            loom.addTourist(i % 3, 3 + i % 3);
            if (hours % (i + 2) == 0) {
                loom.pass(1);
            }
        }
        return passed(loom, hours % 5);
    }

    private int bestAsItComes(Supplier<DetourLoom> made) {
        int best = -1;
        int least = frayBehind24Hours(made.get());
        for (int road = 0; road < made.get().roads(); road++) {
            DetourLoom loom = made.get();
            if (loom.closedFor(road) == 0) {
                loom.mend(road, 4);
                int fray = frayBehind24Hours(loom);
                if (fray < least) {
                    least = fray;
                    best = road;
                }
            }
        }
        check.due("as it comes", made.get().bestToMend(), best);
        return best < 0 ? 0 : 1;
    }

    private static int frayBehind24Hours(DetourLoom loom) {
        loom.pass(24);
        int sum = 0;
        for (int tourist = 0; tourist < loom.tourists(); tourist++) {
            sum += loom.frayOf(tourist);
        }
        return sum;
    }

    private void nothingIsChanged() {
        for (int hours = 0; hours <= 20; hours += 5) {
            int passed = hours;
            check.sentence("Promise 30", "-1 if not by then (nothing is changed).");
            unchanged(() -> someMended(passed), loom -> loom.hoursUntilArrived(11));
            check.sentence("Promise 31", "if nothing else is done (nothing is changed).");
            unchanged(() -> someMended(passed), loom -> loom.frayedIn(50));
            check.sentence("Promise 32", "or by none they are frayed less than without (nothing is changed).");
            unchanged(() -> someMended(passed), loom -> loom.bestToMend());
        }
    }

    private void unchanged(Supplier<DetourLoom> made, Consumer<DetourLoom> call) {
        for (int way = 0; way < 3; way++) {
            DetourLoom asked = made.get();
            call.accept(asked);
            DetourLoom left = made.get();
            String got = Looms.goOn(asked, way) + Looms.answers(asked);
            check.tell(got.equals(Looms.goOn(left, way) + Looms.answers(left)), "something is changed");
        }
    }

    private void meanOfNone() {
        check.sentence("Promise 33", "Returns the mean length of roads; 0 without any.");
        check.dueDouble("without crossings", new DetourLoom().meanLength(), 0.0);
        check.dueDouble("without roads", Looms.withCrossings(10).meanLength(), 0.0);
    }

    private void meanOfOneToTwenty() {
        check.sentence("Promise 33", "Returns the mean length of roads");
        DetourLoom loom = Looms.withCrossings(2);
        int sum = 0;
        for (int count = 1; count <= 20; count++) {
            int length = 1 + count * 4 % 9;
            sum += length;
            loom.addRoad(0, 1, length, 0);
            check.dueDouble(count + " roads", loom.meanLength(), (double) sum / count);
        }
        loom.mend(19, 20);
        check.dueDouble("a closed one too", loom.meanLength(), sum / 20.0);
        check.dueDouble("the least", Looms.beside(20, 1).meanLength(), 1.0);
        DetourLoom most = Looms.beside(20, 9);
        for (int times = 1; times <= 4; times++) {
            Looms.mendAll(most, 1);
            most.pass(1);
            check.dueDouble("with knots of all", most.meanLength(), 9.0 + Math.min(3, times));
        }
    }

    private void digestOfANewOne() {
        check.sentence("Promise 34", "A number d starts with 2153");
        digest(new DetourLoom());
        for (int crossings = 1; crossings <= 10; crossings++) {
            digest(Looms.withCrossings(crossings));
        }
    }

    private void digestOfFullOnes() {
        check.sentence("Promise 34", "d becomes d * 31 + x, which wraps around as a 64-bit integer");
        for (int hours = 0; hours <= 50; hours++) {
            digest(passed(Looms.full(), hours));
            digest(someMended(hours));
            digest(passed(farAway(12), hours));
            digest(passed(wornBeforeOthers(18), hours));
        }
    }

    private void digestCountsOneOrZero() {
        check.sentence("Promise 34", "(whether something is so counts 1 or 0)");
        DetourLoom loom = Looms.row(1);
        loom.addTourist(0, 1);
        digest(loom);
        loom.pass(1);
        digest(loom);
    }

    /** The sum once more, without a bound, and wrapped around at last. */
    private void digest(DetourLoom loom) {
        List<Integer> all = new ArrayList<>(List.of(loom.hour(), loom.crossings(), loom.roads(), loom.tourists(),
            loom.arrived(), loom.closedRoads(), loom.allFrayed(), loom.mostWorn(), loom.partedPairs()));
        all.add(loom.bestToMend());
        for (int r = 0; r < loom.roads(); r++) {
            all.addAll(List.of(loom.lengthOf(r), loom.wearOf(r), loom.knotsOf(r), loom.closedFor(r),
                loom.touristsOn(r)));
        }
        for (int t = 0; t < loom.tourists(); t++) {
            all.addAll(List.of(loom.placeOf(t), loom.roadOf(t), loom.dyeOf(t), loom.frayOf(t),
                loom.hasArrived(t) ? 1 : 0, loom.hoursUntilArrived(t)));
        }
        BigInteger sum = BigInteger.valueOf(2153);
        for (int x : all) {
            sum = sum.multiply(BigInteger.valueOf(31)).add(BigInteger.valueOf(x));
        }
        check.due("of " + all.size() + " numbers", loom.digest(), sum.mod(TWO_TO_64).longValue());
    }
}
