/** What there is (promises 1 to 7): each sentence that names a bound, at both of its ends. */
public final class BuildBoundTest {
    private static final Class<IndexOutOfBoundsException> INDEX = IndexOutOfBoundsException.class;
    private static final Class<IllegalArgumentException> ARGUMENT = IllegalArgumentException.class;
    private static final Class<IllegalStateException> STATE = IllegalStateException.class;
    private static final String ORDER = "If several exceptions apply, the one that is named first is thrown.";
    private static final int LEAST = Integer.MIN_VALUE;
    private static final int MOST = Integer.MAX_VALUE;

    private final Check check = new Check("BuildBoundTest");

    public static void main(String[] args) {
        BuildBoundTest test = new BuildBoundTest();
        test.callsOfAnObject();
        test.waitsForAllItsCalls();
        test.newObject();
        test.crossings();
        test.bothTheSame();
        test.lengths();
        test.dyes();
        test.roads();
        test.newRoad();
        test.sameTouristEnds();
        test.tourists();
        test.waysThere();
        test.newTourist();
        test.mendingHours();
        test.mendingClosedRoads();
        test.mendingUsedRoads();
        test.wearThatMendReturns();
        test.cuttingClosedRoads();
        test.cuttingUsedRoads();
        test.knotsThatCutReturns();
        test.passingHours();
        test.arrivalsThatPassReturns();
        test.orderOfAddRoad();
        test.orderOfAddTourist();
        test.orderOfMendAndCut();
        test.check.end();
    }

    private void callsOfAnObject() {
        check.sentence("What it is", "An object is used for at most 512 calls after it has been made");
        DetourLoom loom = new DetourLoom();
        for (int call = 1; call <= 511; call++) {
            check.due("call " + call, loom.pass(50), 0);
        }
        check.due("the 512th call, when the hour is as late as can be", loom.hour(), 511 * 50);
    }

    /** Of two roads one after the other one is always closed, and so the tourist never sets out. */
    private void waitsForAllItsCalls() {
        DetourLoom loom = Looms.row(1, 1);
        loom.addTourist(0, 2);
        int call = 6;
        for (int turn = 0; call < 510; turn++) {
            check.due("mend in turn " + turn, loom.mend(turn % 2, 20), 0);
            check.due("pass in turn " + turn, loom.pass(10), 0);
            call += 2;
        }
        check.due("waited since the first call", loom.frayOf(0), 252 * 10 - 2);
        check.due("sets out in the tenth hour, by two roads of four", loom.hoursUntilArrived(0), 9 + 4 + 4);
    }

    private void newObject() {
        check.sentence("Promise 1", "Creates a loom without crossings, at the hour 0.");
        DetourLoom loom = new DetourLoom();
        check.due("hour", loom.hour(), 0);
        check.due("crossings", loom.crossings(), 0);
        check.due("roads", loom.roads(), 0);
        check.due("tourists", loom.tourists(), 0);
        check.refused("no road can be there", DetourLoom::new, INDEX, l -> l.addRoad(0, 0, 1, 0));
        check.refused("nor a tourist", DetourLoom::new, INDEX, l -> l.addTourist(0, 0));
        check.due("the first crossing", loom.addCrossing(), 0);
        check.due("it and no more", loom.crossings(), 1);
    }

    private void crossings() {
        check.sentence("Terms", "At most 10, numbered from 0.");
        DetourLoom loom = new DetourLoom();
        for (int i = 0; i < 10; i++) {
            check.due("addCrossing", loom.addCrossing(), i);
        }
        check.due("a road at the last one", loom.addRoad(0, 9, 4, 0), 0);
        check.due("and a way to it", loom.distance(9, 0), 4);
        check.sentence("Promise 2", "Throws `IllegalStateException` if there are 10");
        check.due("the tenth", Looms.withCrossings(9).addCrossing(), 9);
        check.refused("an eleventh", () -> Looms.withCrossings(10), STATE, l -> l.addCrossing());
        check.refused("an eleventh of a full loom", Looms::full, STATE, l -> l.addCrossing());
    }

    private void bothTheSame() {
        check.sentence("Promise 3", "Throws `IllegalArgumentException` if both are the same");
        for (int no = 0; no < 10; no++) {
            int same = no;
            check.refused("both " + no, () -> Looms.withCrossings(10), ARGUMENT,
                l -> l.addRoad(same, same, 1, 0));
        }
        check.refused("the only one", () -> Looms.withCrossings(1), ARGUMENT, l -> l.addRoad(0, 0, 1, 0));
        check.due("the one beside", Looms.withCrossings(10).addRoad(8, 9, 1, 0), 0);
        check.due("and back", Looms.withCrossings(10).addRoad(9, 8, 1, 0), 0);
    }

    private void lengths() {
        check.sentence("Promise 3", "length is not 1 to 9");
        for (int length = 1; length <= 9; length++) {
            DetourLoom loom = Looms.withCrossings(2);
            check.due("length " + length, loom.addRoad(0, 1, length, 0), 0);
            check.due("as long as that", loom.lengthOf(0), length);
        }
        for (int length : new int[] {0, 10, -1, LEAST, MOST}) {
            check.refused("length " + length, () -> Looms.row(2, 3), ARGUMENT, l -> l.addRoad(0, 1, length, 0));
        }
    }

    private void dyes() {
        check.sentence("Promise 3", "dye is not 0 to 3");
        for (int dye = 0; dye <= 3; dye++) {
            DetourLoom loom = Looms.withCrossings(2);
            check.due("dye " + dye, loom.addRoad(0, 1, 1, dye), 0);
            loom.addTourist(0, 1);
            loom.pass(1);
            check.due("dyes with it", loom.dyeOf(0), dye);
        }
        for (int dye : new int[] {-1, 4, LEAST, MOST}) {
            check.refused("dye " + dye, () -> Looms.row(2, 3), ARGUMENT, l -> l.addRoad(0, 1, 1, dye));
        }
    }

    private void roads() {
        check.sentence("Promise 3", "Throws `IllegalStateException` if there are 20");
        DetourLoom loom = Looms.withCrossings(2);
        for (int i = 0; i < 20; i++) {
            check.due("addRoad", loom.addRoad(i % 2, 1 - i % 2, 9, 0), i);
        }
        check.refused("a 21st", () -> Looms.beside(20, 9), STATE, l -> l.addRoad(0, 1, 1, 0));
        check.refused("a 21st of a full loom", Looms::full, STATE, l -> l.addRoad(0, 9, 1, 0));
        check.refused("a 21st to 20 closed ones", () -> closed(20), STATE, l -> l.addRoad(0, 1, 1, 0));
        check.due("the 20th to 19 closed ones", closed(19).addRoad(0, 1, 1, 0), 19);
    }

    private static DetourLoom closed(int roads) {
        DetourLoom loom = Looms.beside(roads, 9);
        Looms.mendAll(loom, 20);
        return loom;
    }

    private void newRoad() {
        check.sentence("Terms", "has a dye, some wear (0, at first), and some knots (none, at first, at most 3)");
        DetourLoom loom = Looms.row(1);
        loom.addTourist(0, 1);
        loom.pass(1);
        Looms.knot(loom, 0, 1);
        int road = loom.addRoad(1, 0, 9, 2);
        check.due("wear", loom.wearOf(road), 0);
        check.due("knots", loom.knotsOf(road), 0);
        check.sentence("Terms", "It is open, or closed for some hours (open, at first).");
        check.due("closed for", loom.closedFor(road), 0);
        check.due("closed roads", loom.closedRoads(), 0);
        check.due("open both ways", loom.mend(0, 20) + loom.openDistance(0, 1) + loom.openDistance(1, 0), 18);
    }

    private void sameTouristEnds() {
        check.sentence("Promise 4", "Throws `IllegalArgumentException` if both are the same");
        for (int no = 0; no < 10; no++) {
            int same = no;
            check.refused("both " + no, () -> Looms.row(1, 1, 1, 1, 1, 1, 1, 1, 1), ARGUMENT,
                l -> l.addTourist(same, same));
        }
        check.refused("the only one", () -> Looms.withCrossings(1), ARGUMENT, l -> l.addTourist(0, 0));
        check.due("the one beside", Looms.row(1, 1, 1, 1, 1, 1, 1, 1, 1).addTourist(9, 8), 0);
    }

    private void tourists() {
        check.sentence("Promise 4", "Throws `IllegalStateException` if there are 12");
        DetourLoom loom = Looms.row(2, 3);
        for (int i = 0; i < 12; i++) {
            check.due("addTourist", loom.addTourist(i % 3, (i + 1) % 3), i);
        }
        check.refused("a 13th", () -> Looms.withTourists(12), STATE, l -> l.addTourist(0, 1));
        check.refused("a 13th of a full loom", Looms::full, STATE, l -> l.addTourist(0, 1));
        check.refused("a 13th when all are in", () -> allIn(12), STATE, l -> l.addTourist(0, 1));
        check.due("the 12th when all are in", allIn(11).addTourist(0, 1), 11);
    }

    private static DetourLoom allIn(int tourists) {
        DetourLoom loom = Looms.withTourists(tourists);
        loom.pass(50);
        return loom;
    }

    private void waysThere() {
        check.sentence("Promise 4", "or no way leads there by all roads");
        check.refused("no road at all", () -> Looms.withCrossings(2), STATE, l -> l.addTourist(0, 1));
        check.refused("no road at the goal", () -> apart(), STATE, l -> l.addTourist(0, 3));
        check.refused("no road where one begins", () -> apart(), STATE, l -> l.addTourist(3, 0));
        check.due("a way by the last two roads", apart().addTourist(0, 2), 0);
        check.due("a way over all crossings", Looms.row(9, 9, 9, 9, 9, 9, 9, 9, 9).addTourist(9, 0), 0);
        DetourLoom closed = Looms.row(1, 1);
        Looms.mendAll(closed, 20);
        check.due("a way by closed roads alone", closed.addTourist(0, 2), 0);
        check.due("and none by open ones", closed.nextRoad(0, 2), -1);
        DetourLoom late = apart();
        late.addRoad(2, 3, 9, 0);
        check.due("a way since the last call", late.addTourist(0, 3), 0);
    }

    /** Three crossings in a row and a fourth without a road. */
    private static DetourLoom apart() {
        DetourLoom loom = Looms.row(1, 1);
        loom.addCrossing();
        return loom;
    }

    private void newTourist() {
        check.sentence("Terms", "has a goal, a dye (plain, at first), and the distance by all roads, "
            + "as it was at the beginning.");
        DetourLoom loom = Looms.row(3);
        loom.addRoad(0, 1, 7, 1);
        loom.mend(0, 20);
        loom.addTourist(0, 1);
        check.due("plain", loom.dyeOf(0), 0);
        loom.pass(4);
        check.due("more than the closed road's three hours", loom.frayOf(0), 1);
        loom.addRoad(0, 1, 1, 2);
        loom.addTourist(0, 1);
        loom.pass(1);
        check.due("no less for a road that came later", loom.frayOf(0), 2);
        check.due("the new one's distance is by it", loom.frayOf(1), 0);
    }

    private void mendingHours() {
        check.sentence("Promise 5", "Throws `IllegalArgumentException` if hours is not 1 to 20");
        for (int hours = 1; hours <= 20; hours++) {
            DetourLoom loom = Looms.row(2, 3);
            check.due("hours " + hours, loom.mend(0, hours), 0);
            check.due("closed for so many", loom.closedFor(0), hours);
            check.due("and the other one for none", loom.closedFor(1), 0);
        }
        for (int hours : new int[] {0, 21, -1, LEAST, MOST}) {
            check.refused("hours " + hours, () -> Looms.withTourists(3), ARGUMENT, l -> l.mend(0, hours));
        }
    }

    private void mendingClosedRoads() {
        check.sentence("Promise 5", "Throws `IllegalStateException` if it is closed");
        for (int passed : new int[] {0, 1, 18, 19}) {
            check.refused("closed for 20 hours, " + passed + " hours ago", () -> mended(20, passed), STATE,
                l -> l.mend(1, 20));
        }
        check.due("open since this hour", mended(20, 20).mend(1, 20), 0);
        check.due("open after an hour", mended(1, 1).mend(1, 20), 0);
        check.refused("closed for an hour", () -> mended(1, 0), STATE, l -> l.mend(1, 1));
        check.due("the open one beside", mended(20, 0).mend(0, 1), 0);
        for (int passed : new int[] {0, 3}) {
            check.refused("worn out, " + passed + " hours ago", () -> wornOut(passed), STATE, l -> l.mend(0, 1));
        }
        check.due("worn out four hours ago", wornOut(4).mend(0, 1), 0);
    }

    /** Two roads, the second of which was mended for some hours, of which some went by. */
    private static DetourLoom mended(int hours, int passed) {
        DetourLoom loom = Looms.row(2, 3);
        loom.mend(1, hours);
        if (passed > 0) {
            loom.pass(passed);
        }
        return loom;
    }

    /** A road that was worn out by five tourists, some hours ago. */
    private static DetourLoom wornOut(int passed) {
        DetourLoom loom = Looms.row(1, 5);
        Looms.addTourists(loom, 5, 0, 1);
        loom.pass(1 + passed);
        return loom;
    }

    private void mendingUsedRoads() {
        check.sentence("Promise 5", "Closes an open road, whoever is on it (who goes on), to mend it.");
        for (int length = 2; length <= 9; length++) {
            DetourLoom loom = Looms.row(length);
            Looms.addTourists(loom, 12, 0, 1);
            loom.pass(1);
            check.due("twelve on it", loom.mend(0, 20), 12);
            check.due("closed", loom.closedFor(0), 20);
            check.due("all on it still", loom.touristsOn(0), 12);
            check.due("none in before the last hour", length == 2 ? 0 : loom.pass(length - 2), 0);
            check.due("all in as long as the road is", loom.pass(1), 12);
            check.due("and it is closed still", loom.closedFor(0), 20 - (length - 1));
        }
    }

    private void wearThatMendReturns() {
        check.sentence("Promise 5", "Returns its wear.");
        check.due("unworn", Looms.row(2).mend(0, 1), 0);
        for (int count = 1; count <= 12; count++) {
            DetourLoom loom = Looms.row(3, 3);
            Looms.addTourists(loom, count, 0, 1);
            loom.pass(1);
            check.due("worn by " + count, loom.mend(0, 5), count);
            check.due("worn still", loom.wearOf(0), count);
            check.due("the other one isn't", loom.mend(1, 5), 0);
            loom.pass(5);
            check.due("unworn again", loom.mend(0, 1), 0);
        }
    }

    private void cuttingClosedRoads() {
        check.sentence("Promise 6", "Throws `IllegalStateException` if it is closed, or somebody is on it");
        for (int passed : new int[] {0, 1, 18, 19}) {
            check.refused("closed for 20 hours, " + passed + " hours ago", () -> mended(20, passed), STATE,
                l -> l.cutKnots(1));
        }
        check.due("open since this hour", mended(20, 20).cutKnots(1), 1);
        check.due("the open one beside", mended(20, 0).cutKnots(0), 0);
        check.refused("worn out", () -> wornOut(0), STATE, l -> l.cutKnots(0));
        check.refused("worn out, with an hour to go", () -> wornOut(3), STATE, l -> l.cutKnots(0));
        check.due("worn out, and open again", wornOut(4).cutKnots(0), 1);
    }

    private void cuttingUsedRoads() {
        check.sentence("Promise 6", "Throws `IllegalStateException` if it is closed, or somebody is on it");
        check.due("one who is about to take it", used(0).cutKnots(0), 3);
        for (int passed = 1; passed <= 4; passed++) {
            int hours = passed;
            check.refused("one on it since " + hours + " hours", () -> used(hours), STATE, l -> l.cutKnots(0));
        }
        check.due("one who came to its end", used(5).cutKnots(0), 3);
        check.due("one who is on the next one", used(6).cutKnots(0), 3);
        check.refused("one on the next one", () -> used(6), STATE, l -> l.cutKnots(1));
        check.refused("somebody on it though closed", () -> usedAndClosed(), STATE, l -> l.cutKnots(0));
        check.refused("twelve on it", () -> usedByAll(), STATE, l -> l.cutKnots(0));
    }

    /** A road with three knots, five long, on which a tourist set out; then one of four. */
    private static DetourLoom used(int passed) {
        DetourLoom loom = Looms.row(2, 4);
        Looms.knot(loom, 0, 3);
        loom.addTourist(0, 2);
        if (passed > 0) {
            loom.pass(passed);
        }
        return loom;
    }

    private static DetourLoom usedAndClosed() {
        DetourLoom loom = used(1);
        loom.mend(0, 9);
        return loom;
    }

    private static DetourLoom usedByAll() {
        DetourLoom loom = Looms.row(9);
        Looms.addTourists(loom, 6, 0, 1);
        Looms.addTourists(loom, 6, 1, 0);
        loom.pass(1);
        return loom;
    }

    private void knotsThatCutReturns() {
        check.sentence("Promise 6", "Returns how many it had.");
        for (int times = 0; times <= 5; times++) {
            DetourLoom loom = Looms.row(9, 9);
            Looms.knot(loom, 0, times);
            Looms.knot(loom, 1, 2);
            check.due("mended " + times + " times", loom.cutKnots(0), Math.min(3, times));
            check.due("none is left", loom.knotsOf(0), 0);
            check.due("none to cut", loom.cutKnots(0), 0);
            check.due("as long as at first", loom.lengthOf(0), 9);
            check.due("not those of the other one", loom.knotsOf(1), 2);
            Looms.knot(loom, 0, 1);
            check.due("the first one anew", loom.cutKnots(0), 1);
        }
    }

    private void passingHours() {
        check.sentence("Promise 7", "Throws `IllegalArgumentException` if hours is not 1 to 50");
        for (int hours = 1; hours <= 50; hours++) {
            DetourLoom inOne = Looms.withTourists(6);
            DetourLoom oneByOne = Looms.withTourists(6);
            int sum = 0;
            for (int i = 0; i < hours; i++) {
                sum += oneByOne.pass(1);
            }
            check.due("hours " + hours, inOne.pass(hours), sum);
            check.due("the hour", inOne.hour(), hours);
            check.tell(Looms.answers(inOne).equals(Looms.answers(oneByOne)), hours + " are not as one by one");
        }
        for (int hours : new int[] {0, 51, -1, LEAST, MOST}) {
            check.refused("hours " + hours, () -> Looms.withTourists(6), ARGUMENT, l -> l.pass(hours));
            check.refused("hours of nothing " + hours, DetourLoom::new, ARGUMENT, l -> l.pass(hours));
        }
    }

    private void arrivalsThatPassReturns() {
        check.sentence("Promise 7", "Returns how many arrive in them.");
        for (int count = 0; count <= 12; count++) {
            DetourLoom loom = Looms.row(9);
            Looms.addTourists(loom, count, 0, 1);
            check.due("in eight hours of nine", loom.pass(8), 0);
            check.due("in the ninth", loom.pass(1), count);
            check.due("in those behind it", loom.pass(50), 0);
        }
    }

    private void orderOfAddRoad() {
        check.sentence("Terms", ORDER);
        for (int no : new int[] {-1, 2}) {
            check.refused("3 no crossing, twice the same", () -> Looms.row(1), INDEX, l -> l.addRoad(no, no, 1, 0));
            check.refused("3 no crossing, no length", () -> Looms.row(1), INDEX, l -> l.addRoad(no, 1, 0, 0));
            check.refused("3 no other, no length", () -> Looms.row(1), INDEX, l -> l.addRoad(1, no, 10, 0));
            check.refused("3 no crossing, no dye", () -> Looms.row(1), INDEX, l -> l.addRoad(no, 1, 1, 4));
            check.refused("3 no other, no dye", () -> Looms.row(1), INDEX, l -> l.addRoad(1, no, 1, -1));
            check.refused("3 no crossing, 20", () -> Looms.beside(20, 1), INDEX, l -> l.addRoad(no, 1, 1, 0));
            check.refused("3 no other, 20", () -> Looms.beside(20, 1), INDEX, l -> l.addRoad(1, no, 1, 0));
            check.refused("3 all at once", () -> Looms.beside(20, 1), INDEX, l -> l.addRoad(no, no, 0, 4));
        }
        check.refused("3 the same, 20", () -> Looms.beside(20, 1), ARGUMENT, l -> l.addRoad(1, 1, 1, 0));
        check.refused("3 too short, 20", () -> Looms.beside(20, 1), ARGUMENT, l -> l.addRoad(0, 1, 0, 0));
        check.refused("3 too long, 20", () -> Looms.beside(20, 1), ARGUMENT, l -> l.addRoad(0, 1, 10, 0));
        check.refused("3 below plain, 20", () -> Looms.beside(20, 1), ARGUMENT, l -> l.addRoad(0, 1, 1, -1));
        check.refused("3 above blue, 20", () -> Looms.beside(20, 1), ARGUMENT, l -> l.addRoad(0, 1, 1, 4));
    }

    private void orderOfAddTourist() {
        check.sentence("Terms", ORDER);
        for (int no : new int[] {-1, 3}) {
            check.refused("4 no crossing, twice the same", () -> Looms.row(1, 1), INDEX, l -> l.addTourist(no, no));
            check.refused("4 none to begin at, 12", () -> Looms.withTourists(12), INDEX, l -> l.addTourist(no, 1));
            check.refused("4 no goal, 12", () -> Looms.withTourists(12), INDEX, l -> l.addTourist(1, no));
            check.refused("4 all at once", () -> Looms.withTourists(12), INDEX, l -> l.addTourist(no, no));
        }
        check.refused("4 no crossing, and no way", () -> Looms.withCrossings(3), INDEX, l -> l.addTourist(0, 3));
        check.refused("4 the same, 12", () -> Looms.withTourists(12), ARGUMENT, l -> l.addTourist(2, 2));
        check.refused("4 the same, and no road", () -> Looms.withCrossings(3), ARGUMENT, l -> l.addTourist(2, 2));
    }

    private void orderOfMendAndCut() {
        check.sentence("Terms", ORDER);
        for (int no : new int[] {-1, 2}) {
            check.refused("5 no road, too short", () -> Looms.row(1, 1), INDEX, l -> l.mend(no, 0));
            check.refused("5 no road, too long", () -> Looms.row(1, 1), INDEX, l -> l.mend(no, 21));
            check.refused("5 no road, others closed", () -> mended(9, 1), INDEX, l -> l.mend(no, 1));
            check.refused("6 no road, others closed", () -> mended(9, 1), INDEX, l -> l.cutKnots(no));
        }
        check.refused("5 too short, closed", () -> mended(9, 1), ARGUMENT, l -> l.mend(1, 0));
        check.refused("5 too long, closed", () -> mended(9, 1), ARGUMENT, l -> l.mend(1, 21));
    }
}
