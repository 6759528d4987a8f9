/** The terms of distance, of frays and of the four steps of an hour, just at their bounds. */
public final class HourBoundTest {
    private final Check check = new Check("HourBoundTest");

    public static void main(String[] args) {
        HourBoundTest test = new HourBoundTest();
        test.lengthsWithKnots();
        test.distances();
        test.waysOverManyRoads();
        test.frays();
        test.fraysOfThoseIn();
        test.hourOfArriving();
        test.closedRoadsOpen();
        test.knotsAtMostThree();
        test.openedRoadsAreTaken();
        test.waysThatAreOpenInPart();
        test.theSmallestNumber();
        test.theShortestNotTheSmallest();
        test.theLastRoadOfAll();
        test.hoursToGo();
        test.hoursOfShortestRoads();
        test.dyesMixed();
        test.wearOfThoseWhoSetOut();
        test.goalsAndOtherEnds();
        test.thoseWhoArrivedStay();
        test.wearOfFourAndFive();
        test.nobodyOnIt();
        test.closedOnesAreNotClosed();
        test.wornOnesAtBothEndsOfTheNumbers();
        test.closedForFourHours();
        test.oneHourGreater();
        test.check.end();
    }

    private void lengthsWithKnots() {
        check.sentence("Terms", "Its length is that of the beginning, and its knots, added.");
        for (int length = 1; length <= 9; length++) {
            DetourLoom loom = Looms.row(length);
            for (int times = 0; times <= 4; times++) {
                check.due("mended " + times + " times", loom.lengthOf(0), length + Math.min(3, times));
                check.due("as far", loom.openDistance(0, 1), length + Math.min(3, times));
                Looms.knot(loom, 0, 1);
            }
        }
    }

    private void distances() {
        check.sentence("Terms", "of the way with the least sum; 0 for the same one.");
        DetourLoom loom = Looms.row(4, 4);
        loom.addRoad(0, 2, 9, 0);
        check.due("two roads of 8 before one of 9", loom.distance(0, 2), 8);
        loom.addRoad(0, 2, 8, 0);
        check.due("one of 8 as well", loom.distance(0, 2), 8);
        loom.addRoad(2, 0, 7, 0);
        check.due("one of 7 before both", loom.distance(0, 2), 7);
        for (int c = 0; c < 3; c++) {
            check.due("the same one", loom.distance(c, c), 0);
            check.due("the same one by open roads", loom.openDistance(c, c), 0);
        }
        check.sentence("Terms", "By open roads, or by all, as is said.");
        loom.mend(4, 1);
        check.due("open ones alone", loom.openDistance(0, 2), 8);
        check.due("all", loom.distance(0, 2), 7);
    }

    /** The dearest detour: nine roads of one against one of nine, and of eight. */
    private void waysOverManyRoads() {
        check.sentence("Terms", "the lengths of the roads of a way between them, added");
        DetourLoom loom = Looms.row(1, 1, 1, 1, 1, 1, 1, 1, 1);
        check.due("nine roads", loom.distance(0, 9), 9);
        loom.addRoad(0, 9, 9, 0);
        check.due("or one as long", loom.distance(9, 0), 9);
        check.due("of both the smallest number", loom.nextRoad(0, 9), 0);
        check.due("and from the other end", loom.nextRoad(9, 0), 8);
        loom.addRoad(9, 0, 8, 0);
        check.due("or a shorter one", loom.distance(0, 9), 8);
        check.due("which is taken", loom.nextRoad(0, 9), 10);
    }

    private void frays() {
        check.sentence("Terms", "Frayed is one by as much as the hours that went by since the beginning "
            + "are more than that, at least 0");
        DetourLoom loom = Looms.row(5);
        loom.pass(50);
        loom.addTourist(0, 1);
        loom.mend(0, 20);
        for (int hours = 0; hours <= 20; hours++) {
            check.due("after " + hours, loom.frayOf(0), Math.max(0, hours - 5));
            loom.pass(1);
        }
    }

    private void fraysOfThoseIn() {
        check.sentence("Terms", "of one who has arrived only those till then count");
        DetourLoom early = Looms.row(5);
        Looms.knot(early, 0, 3);
        early.addTourist(0, 1);
        early.cutKnots(0);
        check.due("in by five hours of eight", early.pass(5), 1);
        early.pass(50);
        check.due("three hours to spare are never used up", early.frayOf(0), 0);
        DetourLoom late = Looms.row(5);
        late.addTourist(0, 1);
        Looms.knot(late, 0, 1);
        check.due("waits an hour less than the mending, then by six", late.pass(5), 1);
        late.pass(50);
        check.due("one hour for good", late.frayOf(0), 1);
    }

    private void hourOfArriving() {
        check.sentence("Terms", "the hour of arriving as well");
        for (int waits = 1; waits <= 3; waits++) {
            DetourLoom loom = Looms.row(1);
            loom.mend(0, waits);
            loom.addTourist(0, 1);
            loom.pass(waits);
            check.due("on the road of two", loom.frayOf(0), waits - 1);
            check.due("in", loom.pass(1), 1);
            check.due("with that hour", loom.frayOf(0), waits);
            check.due("so too for all", loom.allFrayed(), waits);
            loom.pass(1);
            check.due("and no other", loom.frayOf(0), waits);
        }
    }

    private void closedRoadsOpen() {
        check.sentence("An hour, step 1", "Each closed road has an hour less to go; with none left it is open, "
            + "its wear is 0, and it has a knot more, at most 3.");
        for (int hours = 1; hours <= 20; hours++) {
            DetourLoom loom = Looms.row(6, 6);
            Looms.addTourists(loom, 3, 0, 1);
            loom.pass(6);
            loom.mend(0, hours);
            for (int left = hours; left > 0; left--) {
                check.due("an hour less", loom.closedFor(0), left);
                check.due("no knot yet", loom.knotsOf(0), 0);
                check.due("worn still", loom.wearOf(0), 3);
                check.due("the open one beside", loom.closedFor(1), 0);
                loom.pass(1);
            }
            check.due("open", loom.closedFor(0), 0);
            check.due("a knot more", loom.knotsOf(0), 1);
            check.due("unworn", loom.wearOf(0), 0);
            loom.pass(1);
            check.due("open it stays", loom.closedFor(0), 0);
            check.due("with that knot", loom.knotsOf(0), 1);
            check.due("the one beside has none", loom.knotsOf(1), 0);
        }
    }

    private void knotsAtMostThree() {
        check.sentence("An hour, step 1", "and it has a knot more, at most 3");
        DetourLoom loom = Looms.beside(20, 9);
        for (int times = 1; times <= 5; times++) {
            Looms.mendAll(loom, 1);
            loom.pass(1);
            for (int road = 0; road < 20; road++) {
                check.due("road " + road + ", mended " + times + " times", loom.knotsOf(road), Math.min(3, times));
            }
        }
        check.due("as long as a road can be", loom.lengthOf(19), 12);
    }

    private void openedRoadsAreTaken() {
        check.sentence("An hour, step 2", "one who is at a crossing takes a road, if there is a way by open roads");
        for (int hours = 1; hours <= 20; hours++) {
            DetourLoom loom = Looms.row(3);
            loom.mend(0, hours);
            loom.addTourist(0, 1);
            for (int left = hours; left > 1; left--) {
                loom.pass(1);
                check.due("none while it is closed", loom.roadOf(0), -1);
            }
            loom.pass(1);
            check.due("taken in the hour in which it opens", loom.roadOf(0), 0);
            check.due("with one hour less than its knot makes it", loom.hoursUntilArrived(0), 3);
        }
    }

    private void waysThatAreOpenInPart() {
        check.sentence("An hour, step 2", "if there is a way by open roads to the goal");
        for (int shut = 0; shut < 9; shut++) {
            DetourLoom loom = Looms.row(1, 1, 1, 1, 1, 1, 1, 1, 1);
            loom.addTourist(0, 9);
            loom.addTourist(9, 0);
            loom.mend(shut, 2);
            loom.pass(1);
            check.due("stays though the rest is open", loom.placeOf(0), 0);
            check.due("and the other", loom.placeOf(1), 9);
            check.due("takes no road", loom.roadOf(0), -1);
            check.due("and wears none", loom.wearOf(0) + loom.wearOf(8), 0);
            loom.pass(1);
            check.due("goes when all is open", loom.wearOf(0) + loom.wearOf(8), 2);
        }
    }

    private void theSmallestNumber() {
        check.sentence("An hour, step 2", "of several the smallest number");
        for (int least = 0; least < 20; least++) {
            DetourLoom loom = Looms.beside(20, 2);
            for (int road = 0; road < least; road++) {
                loom.mend(road, 20);
            }
            check.due("asked for", loom.nextRoad(1, 0), least);
            loom.addTourist(1, 0);
            loom.pass(1);
            check.due("taken", loom.roadOf(0), least);
        }
    }

    private void theShortestNotTheSmallest() {
        check.sentence("An hour, step 2",
            "of the open roads there the one with which the way by open roads to the goal is the shortest");
        DetourLoom loom = Looms.withCrossings(3);
        loom.addRoad(0, 2, 5, 0);
        loom.addRoad(0, 1, 1, 0);
        loom.addRoad(1, 2, 3, 0);
        loom.addTourist(0, 2);
        Looms.knot(loom, 2, 1);
        check.due("while that is closed, the one of 5", loom.roadOf(0), 0);
        loom.addTourist(0, 2);
        loom.pass(1);
        check.due("with its knot both are of 5", loom.wearOf(0), 2);
        loom.cutKnots(2);
        loom.addTourist(0, 2);
        loom.pass(1);
        check.due("without it the one of 4 by two roads", loom.wearOf(1), 1);
        check.due("the one of 5 no more", loom.wearOf(0), 2);
    }

    private void theLastRoadOfAll() {
        check.sentence("An hour, step 2", "of the open roads there");
        DetourLoom loom = Looms.withCrossings(10);
        for (int road = 0; road < 19; road++) {
            loom.addRoad(road % 8, road % 8 + 1, 1, 0);
        }
        loom.addRoad(9, 8, 9, 3);
        loom.addTourist(9, 0);
        check.due("from the last crossing", loom.nextRoad(9, 0), 19);
        loom.pass(9);
        check.due("at its other end", loom.placeOf(0), 8);
        check.due("then the smallest number there", loom.nextRoad(8, 0), 7);
        check.due("and on", loom.hoursUntilArrived(0), 8);
    }

    private void hoursToGo() {
        check.sentence("An hour, step 2", "with as many hours to go as its length is now");
        for (int length = 1; length <= 9; length++) {
            for (int knots = 0; knots <= 3; knots++) {
                DetourLoom loom = Looms.row(length);
                Looms.knot(loom, 0, knots);
                loom.addTourist(1, 0);
                int hours = length + knots;
                for (int left = hours; left > 0; left--) {
                    check.due("before the last hour", loom.pass(1), left == 1 ? 1 : 0);
                    check.due("on it", loom.touristsOn(0), left == 1 ? 0 : 1);
                }
                check.due("there", loom.placeOf(0), 0);
            }
        }
    }

    private void hoursOfShortestRoads() {
        check.sentence("An hour, step 2", "Then one who is on a road has an hour less to go");
        DetourLoom loom = Looms.row(1, 1, 1, 1, 1, 1, 1, 1, 1);
        loom.addTourist(0, 9);
        for (int at = 1; at <= 9; at++) {
            check.due("one road in an hour", loom.pass(1), at == 9 ? 1 : 0);
            check.due("at its end", loom.placeOf(0), at);
            check.due("on none", loom.roadOf(0), -1);
            check.due("worn by that", loom.wearOf(at - 1), 1);
        }
    }

    private void dyesMixed() {
        check.sentence("Terms", "Two dyes mixed: plain and another one are that one; two that are alike stay so; "
            + "two different ones that are not plain are the third of red, green and blue.");
        int[][] third = {{0, 1, 2, 3}, {1, 1, 3, 2}, {2, 3, 2, 1}, {3, 2, 1, 3}};
        for (int dyes = 0; dyes < 64; dyes++) {
            int[] dye = {dyes / 16, dyes / 4 % 4, dyes % 4};
            DetourLoom loom = Looms.withCrossings(4);
            for (int i = 0; i < 3; i++) {
                loom.addRoad(i, i + 1, 1, dye[i]);
            }
            loom.addTourist(0, 3);
            int due = 0;
            for (int i = 0; i < 3; i++) {
                due = third[due][dye[i]];
                loom.pass(1);
                check.due("road " + i + " of " + dye[0] + dye[1] + dye[2], loom.dyeOf(0), due);
            }
        }
    }

    private void wearOfThoseWhoSetOut() {
        check.sentence("An hour, step 2", "and its wear is 1 more");
        for (int count = 0; count <= 12; count++) {
            DetourLoom loom = Looms.row(8, 8);
            Looms.addTourists(loom, count / 2, 0, 1);
            Looms.addTourists(loom, count - count / 2, 1, 0);
            loom.pass(1);
            check.due("each one, from both ends", loom.wearOf(0), count);
            loom.pass(7);
            check.due("once each", loom.wearOf(0), count);
            check.due("the other one unworn", loom.wearOf(1), 0);
        }
    }

    private void goalsAndOtherEnds() {
        check.sentence("An hour, step 2",
            "with none left, this one is at the crossing at its end, and has arrived, if that is the goal.");
        DetourLoom loom = Looms.withCrossings(3);
        loom.addRoad(2, 1, 2, 0);
        loom.addRoad(0, 1, 2, 0);
        loom.addTourist(2, 0);
        loom.addTourist(2, 1);
        loom.pass(2);
        check.due("at the end", loom.placeOf(0), 1);
        check.due("which isn't the goal", loom.hasArrived(0), false);
        check.due("at the end", loom.placeOf(1), 1);
        check.due("which is the goal", loom.hasArrived(1), true);
        loom.pass(2);
        check.due("at the goal of the first one", loom.placeOf(0), 0);
        check.due("arrived", loom.hasArrived(0), true);
    }

    private void thoseWhoArrivedStay() {
        check.sentence("An hour, step 2", "Each tourist who has not arrived");
        DetourLoom loom = Looms.row(1, 1);
        Looms.addTourists(loom, 3, 0, 1);
        loom.pass(1);
        check.due("no more come in", loom.pass(50), 0);
        check.due("three are in", loom.arrived(), 3);
        check.due("there they stay", loom.placeOf(2), 1);
        check.due("no more is worn", loom.wearOf(0) + loom.wearOf(1), 3);
    }

    private void wearOfFourAndFive() {
        check.sentence("An hour, step 3", "Each road that is open, has a wear of 5 or more");
        for (int count = 0; count <= 12; count++) {
            DetourLoom loom = Looms.row(1);
            Looms.addTourists(loom, count, 0, 1);
            loom.pass(1);
            check.due("wear", loom.wearOf(0), count);
            check.due("closed by " + count, loom.closedFor(0), count >= 5 ? 4 : 0);
        }
        DetourLoom again = Looms.row(1);
        Looms.addTourists(again, 5, 0, 1);
        again.pass(5);
        Looms.addTourists(again, 4, 0, 1);
        again.pass(3);
        check.due("four more since it opened", again.closedFor(0), 0);
        again.addTourist(0, 1);
        again.pass(2);
        check.due("and a fifth", again.closedFor(0), 4);
    }

    private void nobodyOnIt() {
        check.sentence("An hour, step 3", "and on which nobody is");
        DetourLoom loom = Looms.row(3);
        Looms.addTourists(loom, 4, 0, 1);
        loom.pass(1);
        loom.addTourist(0, 1);
        loom.pass(1);
        check.due("five on it", loom.closedFor(0), 0);
        loom.pass(1);
        check.due("one on it", loom.closedFor(0), 0);
        loom.pass(1);
        check.due("nobody on it", loom.closedFor(0), 4);
        DetourLoom last = Looms.row(1, 9);
        Looms.addTourists(last, 11, 0, 1);
        last.addTourist(1, 2);
        last.pass(1);
        check.due("the last one is on another", last.closedFor(0), 4);
        check.due("which stays open", last.closedFor(1), 0);
    }

    private void closedOnesAreNotClosed() {
        check.sentence("An hour, step 3", "Each road that is open");
        DetourLoom loom = Looms.row(2);
        Looms.addTourists(loom, 5, 0, 1);
        loom.pass(1);
        loom.mend(0, 2);
        loom.pass(1);
        check.due("closed for an hour, not for four", loom.closedFor(0), 1);
        loom.pass(1);
        check.due("open then, with no wear", loom.closedFor(0), 0);
        check.due("of five none is left", loom.wearOf(0), 0);
        DetourLoom used = Looms.row(3);
        Looms.addTourists(used, 5, 0, 1);
        used.pass(1);
        Looms.knot(used, 0, 1);
        check.due("opened while five are on it", used.touristsOn(0), 5);
        used.pass(1);
        check.due("and not worn out behind them", used.closedFor(0), 0);
    }

    private void wornOnesAtBothEndsOfTheNumbers() {
        check.sentence("An hour, step 3", "is closed for 4 hours");
        for (int worn : new int[] {0, 1, 18, 19}) {
            DetourLoom loom = Looms.beside(20, 1);
            for (int road = 0; road < worn; road++) {
                loom.mend(road, 20);
            }
            Looms.addTourists(loom, 12, 1, 0);
            loom.pass(1);
            check.due("road " + worn, loom.closedFor(worn), 4);
            check.due("and no other", loom.closedRoads(), worn + 1);
        }
    }

    private void closedForFourHours() {
        check.sentence("An hour, step 3", "is closed for 4 hours");
        DetourLoom loom = Looms.row(1);
        Looms.addTourists(loom, 5, 0, 1);
        loom.pass(1);
        for (int left = 4; left > 0; left--) {
            check.due("the hour of closing does not count", loom.closedFor(0), left);
            loom.addTourist(1, 0);
            loom.pass(1);
        }
        check.due("open", loom.closedFor(0), 0);
        check.due("four who waited are on it", loom.touristsOn(0), 4);
        check.due("and have worn it", loom.wearOf(0), 4);
    }

    private void oneHourGreater() {
        check.sentence("An hour, step 4", "The hour is 1 greater.");
        DetourLoom loom = Looms.full();
        for (int hour = 0; hour < 60; hour++) {
            check.due("hour", loom.hour(), hour);
            loom.pass(1);
        }
    }
}
