import java.util.ArrayList;
import java.util.List;

/** Looms that several tests begin with, and looks at all of a loom. */
final class Looms {
    private Looms() {
    }

    static DetourLoom withCrossings(int count) {
        DetourLoom loom = new DetourLoom();
        for (int i = 0; i < count; i++) {
            loom.addCrossing();
        }
        return loom;
    }

    /** Crossings in a row, with plain roads of these lengths from each to the next. */
    static DetourLoom row(int... lengths) {
        DetourLoom loom = withCrossings(lengths.length + 1);
        for (int i = 0; i < lengths.length; i++) {
            loom.addRoad(i, i + 1, lengths[i], 0);
        }
        return loom;
    }

    static void addTourists(DetourLoom loom, int count, int from, int goal) {
        for (int i = 0; i < count; i++) {
            loom.addTourist(from, goal);
        }
    }

    /** Two crossings with this many plain roads between them. */
    static DetourLoom beside(int count, int length) {
        DetourLoom loom = withCrossings(2);
        for (int i = 0; i < count; i++) {
            loom.addRoad(0, 1, length, 0);
        }
        return loom;
    }

    /** A row of two short roads with this many tourists on it, from either end. */
    static DetourLoom withTourists(int count) {
        DetourLoom loom = row(2, 3);
        for (int i = 0; i < count; i++) {
            loom.addTourist(i % 2 * 2, 2 - i % 2 * 2);
        }
        return loom;
    }

    /** As much as there can be: 10 crossings, 20 roads and 12 tourists. */
    static DetourLoom full() {
        DetourLoom loom = row(9, 8, 7, 6, 5, 4, 3, 2, 1);
        for (int i = 0; i < 11; i++) {
            loom.addRoad(i % 10, (i + 3) % 10, 9 - i % 9, i % 4);
        }
        for (int i = 0; i < 12; i++) {
            loom.addTourist(i % 10, (i + 5) % 10);
        }
        return loom;
    }

    /** Mends a road again and again till it has this many knots more, or all that it can have. */
    static void knot(DetourLoom loom, int road, int times) {
        for (int i = 0; i < times; i++) {
            loom.mend(road, 1);
            loom.pass(1);
        }
    }

    static void mendAll(DetourLoom loom, int hours) {
        for (int road = 0; road < loom.roads(); road++) {
            loom.mend(road, hours);
        }
    }

    /** Goes on with a loom in one of three ways: not at all, by hours, or by calls of each kind. */
    static String goOn(DetourLoom loom, int way) {
        if (way == 0) {
            return "";
        }
        if (way == 1) {
            return "passed " + loom.pass(7) + " ";
        }
        StringBuilder all = new StringBuilder();
        Runnable[] calls = {
            () -> all.append(loom.addCrossing()), () -> all.append(loom.addRoad(0, 1, 2, 1)),
            () -> all.append(loom.addTourist(0, 1)), () -> all.append(loom.cutKnots(0)),
            () -> all.append(loom.mend(0, 2)), () -> all.append(loom.pass(3)),
        };
        for (Runnable call : calls) {
            try {
                call.run();
            } catch (RuntimeException e) {
                all.append(e.getClass().getSimpleName());
            }
            all.append(' ');
        }
        return all.toString();
    }

    /** Every answer of a loom, by some 400 calls at most. */
    static String answers(DetourLoom loom) {
        List<Object> all = new ArrayList<>(List.of(loom.hour(), loom.crossings(), loom.roads(),
            loom.tourists(), loom.arrived(), loom.closedRoads(), loom.allFrayed(), loom.mostWorn(),
            loom.partedPairs()));
        for (int r = 0; r < loom.roads(); r++) {
            all.addAll(List.of(loom.lengthOf(r), loom.wearOf(r), loom.knotsOf(r), loom.closedFor(r),
                loom.touristsOn(r)));
        }
        for (int from = 0; from < loom.crossings(); from++) {
            for (int goal = 0; goal < from; goal++) {
                all.addAll(List.of(loom.openDistance(from, goal), loom.distance(from, goal)));
            }
            all.add(loom.nextRoad(from, 0));
            all.add(loom.nextRoad(from, loom.crossings() - 1));
        }
        for (int t = 0; t < loom.tourists(); t++) {
            all.addAll(List.of(loom.placeOf(t), loom.roadOf(t), loom.dyeOf(t), loom.frayOf(t),
                loom.hasArrived(t), loom.hoursUntilArrived(t)));
        }
        all.addAll(List.of(loom.frayedIn(1), loom.frayedIn(50), loom.bestToMend(), loom.meanLength(),
            loom.digest()));
        return all.toString();
    }
}
