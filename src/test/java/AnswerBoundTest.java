/** What is asked of the loom, its roads, ways and tourists (promises 8 to 29): empty, full, and just between. */
public final class AnswerBoundTest {
    private final Check check = new Check("AnswerBoundTest");

    public static void main(String[] args) {
        AnswerBoundTest test = new AnswerBoundTest();
        test.hours();
        test.howManyThereAre();
        test.howManyArrived();
        test.howManyAreClosed();
        test.allFrayed();
        test.lengthsAndKnots();
        test.wears();
        test.closedFor();
        test.touristsOn();
        test.mostWornOfNone();
        test.mostWornOfSeveral();
        test.mostWornOfTwenty();
        test.noOpenWay();
        test.noWayAtAll();
        test.noNextRoad();
        test.parted();
        test.partedByClosedRoads();
        test.places();
        test.roadsOfTourists();
        test.dyes();
        test.fraysNow();
        test.arrivedOrNot();
        test.check.end();
    }

    private void hours() {
        check.sentence("Promise 8", "Returns the hour.");
        DetourLoom loom = new DetourLoom();
        check.due("at first", loom.hour(), 0);
        loom.pass(1);
        check.due("the least that can pass", loom.hour(), 1);
        loom.pass(50);
        check.due("the most that can pass", loom.hour(), 51);
        check.refused("a refused one is none", Looms::full, IllegalArgumentException.class, l -> l.pass(51));
    }

    private void howManyThereAre() {
        check.sentence("Promise 9", "Returns how many crossings there are.");
        for (int count = 0; count <= 10; count++) {
            check.due("crossings", Looms.withCrossings(count).crossings(), count);
        }
        check.sentence("Promise 10", "Returns how many roads there are.");
        for (int count = 0; count <= 20; count++) {
            DetourLoom loom = Looms.beside(count, 9);
            check.due("roads", loom.roads(), count);
            Looms.mendAll(loom, 20);
            check.due("closed ones too", loom.roads(), count);
        }
        check.sentence("Promise 11", "Returns how many tourists there are.");
        for (int count = 0; count <= 12; count++) {
            DetourLoom loom = Looms.withTourists(count);
            check.due("tourists", loom.tourists(), count);
            loom.pass(50);
            check.due("those who arrived too", loom.tourists(), count);
        }
    }

    private void howManyArrived() {
        check.sentence("Promise 12", "Returns how many of them have arrived.");
        check.due("of none", new DetourLoom().arrived(), 0);
        DetourLoom loom = Looms.row(9);
        for (int hour = 0; hour < 12; hour++) {
            check.due("nine hours behind setting out", loom.arrived(), Math.max(0, hour - 8));
            loom.addTourist(hour % 2, 1 - hour % 2);
            loom.pass(1);
        }
        for (int hour = 12; hour <= 22; hour++) {
            check.due("till all twelve are in", loom.arrived(), Math.min(12, hour - 8));
            loom.pass(1);
        }
    }

    private void howManyAreClosed() {
        check.sentence("Promise 13", "Returns how many roads are closed.");
        check.due("of none", new DetourLoom().closedRoads(), 0);
        DetourLoom loom = Looms.beside(20, 9);
        for (int road = 0; road < 20; road++) {
            check.due("closed one by one", loom.closedRoads(), road);
            loom.mend(road, road + 1);
        }
        for (int closed = 20; closed > 0; closed--) {
            check.due("open again one by one", loom.closedRoads(), closed);
            loom.pass(1);
        }
        check.due("all are open", loom.closedRoads(), 0);
    }

    private void allFrayed() {
        check.sentence("Promise 14", "Returns by how much all who have arrived are frayed, added.");
        check.due("of none", new DetourLoom().allFrayed(), 0);
        DetourLoom loom = Looms.row(9);
        loom.mend(0, 20);
        Looms.addTourists(loom, 12, 0, 1);
        loom.pass(28);
        check.due("of none who arrived, though frayed", loom.allFrayed(), 0);
        check.due("one of them is by so much", loom.frayOf(11), 19);
        loom.pass(1);
        check.due("of all twelve", loom.allFrayed(), 12 * 20);
        loom.pass(50);
        check.due("no more later on", loom.allFrayed(), 12 * 20);
    }

    private void lengthsAndKnots() {
        DetourLoom loom = Looms.beside(10, 1);
        for (int i = 0; i < 10; i++) {
            loom.addRoad(1, 0, 9, 0);
        }
        for (int times = 0; times <= 4; times++) {
            int knots = Math.min(3, times);
            check.sentence("Promise 15", "Returns its length.");
            check.due("the first road", loom.lengthOf(0), 1 + knots);
            check.due("the last road", loom.lengthOf(19), 9 + knots);
            check.sentence("Promise 17", "Returns how many knots it has.");
            check.due("the first road", loom.knotsOf(0), knots);
            check.due("the last road", loom.knotsOf(19), knots);
            check.due("one that is never mended", loom.knotsOf(10), 0);
            Looms.knot(loom, 0, 1);
            Looms.knot(loom, 19, 1);
        }
    }

    private void wears() {
        check.sentence("Promise 16", "Returns its wear.");
        for (int road : new int[] {0, 19}) {
            DetourLoom loom = Looms.beside(20, 3);
            for (int before = 0; before < road; before++) {
                loom.mend(before, 20);
            }
            check.due("at first", loom.wearOf(road), 0);
            Looms.addTourists(loom, 12, 0, 1);
            check.due("nobody set out yet", loom.wearOf(road), 0);
            loom.pass(1);
            check.due("all set out", loom.wearOf(road), 12);
            loom.pass(2);
            check.due("worn out", loom.closedFor(road), 4);
            check.due("worn while it is closed", loom.wearOf(road), 12);
            loom.pass(3);
            check.due("till the last hour", loom.wearOf(road), 12);
            loom.pass(1);
            check.due("unworn again", loom.wearOf(road), 0);
        }
    }

    private void closedFor() {
        check.sentence("Promise 18", "Returns for how many hours it is closed; 0 if it is open.");
        for (int passed = 1; passed <= 21; passed++) {
            DetourLoom loom = Looms.beside(20, 3);
            for (int road = 0; road < 20; road++) {
                check.due("open", loom.closedFor(road), 0);
                loom.mend(road, road + 1);
                check.due("closed", loom.closedFor(road), road + 1);
            }
            loom.pass(passed);
            for (int road = 0; road < 20; road++) {
                check.due("road " + road + " after " + passed, loom.closedFor(road), Math.max(0, road + 1 - passed));
            }
        }
    }

    private void touristsOn() {
        check.sentence("Promise 19", "Returns how many tourists are on it.");
        for (int count = 0; count <= 12; count++) {
            DetourLoom loom = Looms.row(2, 2);
            Looms.addTourists(loom, count, 0, 2);
            check.due("nobody at first", loom.touristsOn(0), 0);
            loom.pass(1);
            check.due("all", loom.touristsOn(0), count);
            check.due("nobody on the next one", loom.touristsOn(1), 0);
            loom.pass(1);
            check.due("nobody at the crossing", loom.touristsOn(0) + loom.touristsOn(1), 0);
            loom.pass(1);
            check.due("nobody any more", loom.touristsOn(0), 0);
            check.due("all on the next one", loom.touristsOn(1), count);
            loom.pass(1);
            check.due("nobody who arrived", loom.touristsOn(1), 0);
        }
    }

    private void mostWornOfNone() {
        check.sentence("Promise 20", "-1 if none is open.");
        check.due("without crossings", new DetourLoom().mostWorn(), -1);
        check.due("without roads", Looms.withCrossings(10).mostWorn(), -1);
        for (int count : new int[] {1, 2, 19, 20}) {
            DetourLoom loom = Looms.beside(count, 5);
            Looms.mendAll(loom, 3);
            check.due("all closed", loom.mostWorn(), -1);
            loom.pass(2);
            check.due("all closed still", loom.mostWorn(), -1);
            loom.pass(1);
            check.due("all open, and none worn", loom.mostWorn(), 0);
        }
        DetourLoom last = Looms.beside(20, 5);
        for (int road = 0; road < 19; road++) {
            last.mend(road, 20);
        }
        check.due("the last one alone is open", last.mostWorn(), 19);
        last.mend(19, 20);
        check.due("nor that", last.mostWorn(), -1);
    }

    private void mostWornOfSeveral() {
        check.sentence("Promise 20", "the open road with the most wear, of several the smallest number");
        DetourLoom loom = Looms.row(9, 9, 9);
        loom.addTourist(1, 2);
        loom.addTourist(2, 3);
        loom.pass(1);
        check.due("of two worn by one", loom.mostWorn(), 1);
        loom.addTourist(2, 3);
        loom.pass(1);
        check.due("that by two", loom.mostWorn(), 2);
        loom.addTourist(2, 1);
        loom.pass(1);
        check.due("of two worn by two", loom.mostWorn(), 1);
        Looms.addTourists(loom, 3, 0, 1);
        loom.pass(1);
        check.due("that by three", loom.mostWorn(), 0);
        loom.mend(0, 1);
        check.due("without the closed one", loom.mostWorn(), 1);
        loom.pass(1);
        check.due("open again, but unworn", loom.mostWorn(), 1);
    }

    private void mostWornOfTwenty() {
        check.sentence("Promise 20", "the open road with the most wear");
        for (int shortest = 0; shortest < 20; shortest++) {
            DetourLoom loom = Looms.withCrossings(2);
            for (int road = 0; road < 20; road++) {
                loom.addRoad(0, 1, road == shortest ? 3 : 4, 0);
            }
            loom.addTourist(0, 1);
            loom.pass(1);
            check.due("the only worn one", loom.mostWorn(), shortest);
            loom.mend(shortest, 1);
            check.due("the first of those that are open", loom.mostWorn(), shortest == 0 ? 1 : 0);
        }
    }

    private void noOpenWay() {
        check.sentence("Promise 21", "-1 if no way leads from one to the other.");
        for (int shut = 0; shut < 9; shut++) {
            DetourLoom loom = Looms.row(1, 2, 3, 4, 5, 6, 7, 8, 9);
            loom.mend(shut, 1);
            check.due("over the closed one", loom.openDistance(shut, shut + 1), -1);
            check.due("and back", loom.openDistance(shut + 1, shut), -1);
            check.due("from end to end", loom.openDistance(0, 9), -1);
            check.due("before it", loom.openDistance(0, shut), shut * (shut + 1) / 2);
            check.due("behind it", loom.openDistance(9, shut + 1), 45 - (shut + 1) * (shut + 2) / 2);
            check.due("the same one", loom.openDistance(shut, shut), 0);
            loom.pass(1);
            check.due("open, with a knot", loom.openDistance(9, 0), 46);
        }
        check.due("without roads", Looms.withCrossings(2).openDistance(0, 1), -1);
        check.due("the only one", Looms.withCrossings(1).openDistance(0, 0), 0);
    }

    private void noWayAtAll() {
        check.sentence("Promise 22", "Returns their distance by all roads; -1 likewise.");
        DetourLoom loom = Looms.withCrossings(10);
        for (int one = 0; one < 10; one++) {
            for (int other = 0; other < 10; other++) {
                check.due("without roads", loom.distance(one, other), one == other ? 0 : -1);
            }
        }
        for (int i = 1; i < 10; i++) {
            check.due("not yet", loom.distance(0, i), -1);
            loom.addRoad(i, i - 1, 9, 0);
            loom.mend(i - 1, 20);
            check.due("by closed roads", loom.distance(0, i), 9 * i);
            check.due("and back", loom.distance(i, 0), 9 * i);
            check.due("by open ones not", loom.openDistance(0, i), -1);
        }
    }

    private void noNextRoad() {
        check.sentence("Promise 23", "-1 if none, or both are the same.");
        DetourLoom loom = Looms.row(1, 1, 1, 1, 1, 1, 1, 1);
        loom.addCrossing();
        for (int c = 0; c < 10; c++) {
            check.due("the same one", loom.nextRoad(c, c), -1);
        }
        for (int c = 0; c < 9; c++) {
            check.due("to the one apart", loom.nextRoad(c, 9), -1);
            check.due("from the one apart", loom.nextRoad(9, c), -1);
            check.due("to the first", loom.nextRoad(c, 0), c - 1);
            check.due("to the last of the row", loom.nextRoad(c, 8), c == 8 ? -1 : c);
        }
        loom.addRoad(9, 8, 9, 0);
        check.due("by a new road", loom.nextRoad(9, 0), 8);
        loom.mend(8, 1);
        check.due("by none while it is closed", loom.nextRoad(9, 0), -1);
        check.due("though the closed one opens in the next hour", loom.closedFor(8), 1);
        loom.pass(1);
        check.due("open", loom.nextRoad(9, 0), 8);
        check.due("the only crossing there is", Looms.withCrossings(1).nextRoad(0, 0), -1);
    }

    private void parted() {
        check.sentence("Promise 24",
            "Returns how many pairs of different crossings have no way by open roads between them.");
        for (int count = 0; count <= 10; count++) {
            DetourLoom loom = Looms.withCrossings(count);
            check.due("without roads", loom.partedPairs(), count * (count - 1) / 2);
            for (int linked = 1; linked < count; linked++) {
                loom.addRoad(linked, linked - 1, 1, 0);
                int apart = count - linked - 1;
                check.due("with " + linked + " in a row", loom.partedPairs(), apart * (apart - 1) / 2 + apart * (linked + 1));
            }
        }
    }

    private void partedByClosedRoads() {
        check.sentence("Promise 24",
            "Returns how many pairs of different crossings have no way by open roads between them.");
        for (int shut = 0; shut < 9; shut++) {
            DetourLoom loom = Looms.row(1, 1, 1, 1, 1, 1, 1, 1, 1);
            loom.mend(shut, 1);
            check.due("road " + shut + " closed", loom.partedPairs(), (shut + 1) * (9 - shut));
            loom.pass(1);
            check.due("open", loom.partedPairs(), 0);
            loom.addRoad(0, 9, 9, 0);
            loom.mend(shut, 1);
            check.due("none by a way round about", loom.partedPairs(), 0);
        }
        DetourLoom loom = Looms.row(1, 1, 1, 1, 1, 1, 1, 1, 1);
        Looms.mendAll(loom, 20);
        check.due("all closed", loom.partedPairs(), 45);
    }

    private void places() {
        check.sentence("Promise 25", "Returns the crossing where this one is; -1 on a road.");
        for (int goal : new int[] {0, 9}) {
            DetourLoom loom = Looms.row(2, 2, 2, 2, 2, 2, 2, 2, 2);
            loom.addTourist(9 - goal, goal);
            int step = goal == 0 ? -1 : 1;
            for (int at = 9 - goal; at != goal; at += step) {
                check.due("at a crossing", loom.placeOf(0), at);
                loom.pass(1);
                check.due("on a road", loom.placeOf(0), -1);
                loom.pass(1);
            }
            check.due("at the goal", loom.placeOf(0), goal);
            loom.pass(50);
            check.due("for good", loom.placeOf(0), goal);
        }
    }

    private void roadsOfTourists() {
        check.sentence("Promise 26", "Returns the road on which this one is; -1 at a crossing.");
        for (int road : new int[] {0, 19}) {
            DetourLoom loom = Looms.beside(20, 9);
            for (int before = 0; before < road; before++) {
                loom.mend(before, 20);
            }
            Looms.addTourists(loom, 12, 1, 0);
            check.due("at a crossing", loom.roadOf(11), -1);
            for (int hours = 1; hours < 9; hours++) {
                loom.pass(1);
                check.due("the last one", loom.roadOf(11), road);
                check.due("the first one", loom.roadOf(0), road);
            }
            loom.pass(1);
            check.due("arrived", loom.roadOf(11), -1);
        }
    }

    private void dyes() {
        check.sentence("Promise 27", "Returns the dye of this one.");
        DetourLoom loom = Looms.withCrossings(2);
        loom.addRoad(0, 1, 2, 3);
        loom.mend(0, 2);
        Looms.addTourists(loom, 12, 0, 1);
        loom.pass(1);
        check.due("plain while it waits", loom.dyeOf(11), 0);
        loom.pass(1);
        check.due("dyed as it sets out", loom.dyeOf(11), 3);
        check.due("and the first one", loom.dyeOf(0), 3);
        loom.pass(50);
        check.due("for good", loom.dyeOf(11), 3);
    }

    private void fraysNow() {
        check.sentence("Promise 28", "Returns by how much this one is frayed now.");
        DetourLoom loom = Looms.row(9);
        loom.mend(0, 20);
        for (int tourist = 0; tourist < 12; tourist++) {
            loom.addTourist(0, 1);
            loom.pass(1);
        }
        for (int tourist = 0; tourist < 12; tourist++) {
            check.due("each since its own beginning", loom.frayOf(tourist), Math.max(0, 12 - tourist - 9));
        }
        loom.pass(17);
        for (int tourist = 0; tourist < 12; tourist++) {
            check.due("each till all are in", loom.frayOf(tourist), 20 - tourist);
        }
    }

    private void arrivedOrNot() {
        check.sentence("Promise 29", "Returns whether this one has arrived.");
        for (int hours = 1; hours <= 9; hours++) {
            DetourLoom loom = Looms.row(hours, 1);
            Looms.addTourists(loom, 11, 0, 2);
            loom.addTourist(0, 1);
            check.due("at first", loom.hasArrived(11), false);
            check.due("in the hour before", hours == 1 ? 0 : loom.pass(hours - 1), 0);
            check.due("not in yet", loom.hasArrived(11), false);
            loom.pass(1);
            check.due("in", loom.hasArrived(11), true);
            check.due("at the same crossing with another goal", loom.hasArrived(10), false);
            check.due("there", loom.placeOf(10), 1);
        }
    }
}
