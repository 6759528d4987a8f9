/** Long runs of calls, the same ones each time, each answer compared with that of Model. */
public final class ModelTest {
    private static final int RUNS = 400;
    private static final int CALLS = 512;

    private final Check check = new Check("ModelTest");
    private DetourLoom loom;
    private Model model;
    private long seed;
    private String told;

    public static void main(String[] args) {
        ModelTest test = new ModelTest();
        for (int run = 0; run < RUNS; run++) {
            test.run(run);
        }
        test.check.end();
    }

    private interface Call {
        long ask();
    }

    private void run(int run) {
        loom = new DetourLoom();
        model = new Model();
        seed = run * 7919L + 12345;
        int built = run % 10 == 0 ? 0 : begin(run);
        for (int call = built; call < CALLS - 1; call++) {
            told = "run " + run + " call " + call + ": ";
            if (any(3) > 0) {
                change();
            } else {
                ask();
            }
        }
        told = "run " + run + " at last: ";
        same("digest", loom::digest, model::digest);
    }

    /** A net that hangs together at first, so that most of the run is about tourists. */
    private int begin(int run) {
        told = "run " + run + " begins: ";
        int crossings = 2 + run % 9;
        int longest = 1 + run % 8;
        for (int i = 0; i < crossings; i++) {
            same("addCrossing", loom::addCrossing, model::addCrossing);
        }
        for (int i = 1; i < crossings; i++) {
            road(any(i), i, 1 + any(longest), any(4));
        }
        for (int i = crossings; i < 12 && i < 2 * crossings; i++) {
            road(any(crossings), any(crossings), 1 + any(longest), any(4));
        }
        return 3 * crossings;
    }

    private void road(int one, int other, int length, int dye) {
        same("addRoad " + one + " " + other + " " + length + " " + dye,
            () -> loom.addRoad(one, other, length, dye), () -> model.addRoad(one, other, length, dye));
    }

    private int any(int bound) {
        seed = seed * 6364136223846793005L + 1442695040888963407L;
        return (int) ((seed >>> 33) % bound);
    }

    /** Mostly a number that there is, at times one that is not, just beside or far off. */
    private int number(int count) {
        int kind = any(25);
        if (kind == 0) {
            return any(2) == 0 ? -1 : count;
        }
        if (kind == 1) {
            return any(2) == 0 ? Integer.MIN_VALUE : Integer.MAX_VALUE;
        }
        return any(Math.max(1, count));
    }

    private int within(int low, int high) {
        return any(20) == 0 ? (any(2) == 0 ? low - 1 : high + 1) : low + any(high - low + 1);
    }

    private void change() {
        int kind = any(40);
        int road = number(model.roads());
        int one = number(model.crossings());
        int other = number(model.crossings());
        if (kind == 0) {
            same("addCrossing", loom::addCrossing, model::addCrossing);
        } else if (kind < 3) {
            road(one, other, within(1, 9), within(0, 3));
        } else if (kind < 10) {
            same("addTourist " + one + " " + other,
                () -> loom.addTourist(one, other), () -> model.addTourist(one, other));
        } else if (kind < 12) {
            int hours = any(3) == 0 ? within(1, 20) : 1 + any(4);
            same("mend " + road + " " + hours, () -> loom.mend(road, hours), () -> model.mend(road, hours));
        } else if (kind < 14) {
            same("cutKnots " + road, () -> loom.cutKnots(road), () -> model.cutKnots(road));
        } else if (kind < 24) {
            int hours = any(12) == 0 ? within(1, 50) : 1 + any(2);
            same("pass " + hours, () -> loom.pass(hours), () -> model.pass(hours));
        } else {
            ask();
        }
    }

    private void ask() {
        int kind = any(27);
        if (kind < 9) {
            askLoom(kind);
        } else if (kind < 14) {
            askRoad(kind, number(model.roads()));
        } else if (kind < 17) {
            askWay(kind, number(model.crossings()), number(model.crossings()));
        } else {
            askTourist(kind, number(model.tourists()));
        }
    }

    private void askLoom(int kind) {
        switch (kind) {
            case 0: same("hour", loom::hour, model::hour); break;
            case 1: same("crossings", loom::crossings, model::crossings); break;
            case 2: same("roads", loom::roads, model::roads); break;
            case 3: same("tourists", loom::tourists, model::tourists); break;
            case 4: same("arrived", loom::arrived, model::arrived); break;
            case 5: same("closedRoads", loom::closedRoads, model::closedRoads); break;
            case 6: same("allFrayed", loom::allFrayed, model::allFrayed); break;
            case 7: same("mostWorn", loom::mostWorn, model::mostWorn); break;
            default: same("partedPairs", loom::partedPairs, model::partedPairs); break;
        }
    }

    private void askRoad(int kind, int r) {
        switch (kind) {
            case 9: same("lengthOf " + r, () -> loom.lengthOf(r), () -> model.lengthOf(r)); break;
            case 10: same("wearOf " + r, () -> loom.wearOf(r), () -> model.wearOf(r)); break;
            case 11: same("knotsOf " + r, () -> loom.knotsOf(r), () -> model.knotsOf(r)); break;
            case 12: same("closedFor " + r, () -> loom.closedFor(r), () -> model.closedFor(r)); break;
            default: same("touristsOn " + r, () -> loom.touristsOn(r), () -> model.touristsOn(r)); break;
        }
    }

    private void askWay(int kind, int a, int b) {
        String ends = " " + a + " " + b;
        switch (kind) {
            case 14: same("openDistance" + ends, () -> loom.openDistance(a, b), () -> model.openDistance(a, b)); break;
            case 15: same("distance" + ends, () -> loom.distance(a, b), () -> model.distance(a, b)); break;
            default: same("nextRoad" + ends, () -> loom.nextRoad(a, b), () -> model.nextRoad(a, b)); break;
        }
    }

    private void askTourist(int kind, int t) {
        int hours = within(1, 50);
        switch (kind) {
            case 17: same("placeOf " + t, () -> loom.placeOf(t), () -> model.placeOf(t)); break;
            case 18: same("roadOf " + t, () -> loom.roadOf(t), () -> model.roadOf(t)); break;
            case 19: same("dyeOf " + t, () -> loom.dyeOf(t), () -> model.dyeOf(t)); break;
            case 20: same("frayOf " + t, () -> loom.frayOf(t), () -> model.frayOf(t)); break;
            case 21: same("hasArrived " + t, () -> loom.hasArrived(t) ? 1 : 0, () -> model.hasArrived(t)); break;
            case 22:
                same("hoursUntilArrived " + t, () -> loom.hoursUntilArrived(t), () -> model.hoursUntilArrived(t));
                break;
            case 23: same("frayedIn " + hours, () -> loom.frayedIn(hours), () -> model.frayedIn(hours)); break;
            case 24: same("bestToMend", loom::bestToMend, model::bestToMend); break;
            case 25: check.dueDouble(told + "meanLength", loom.meanLength(), model.meanLength()); break;
            default: same("digest", loom::digest, model::digest); break;
        }
    }

    private void same(String what, Call ofLoom, Call ofModel) {
        long got;
        try {
            got = ofLoom.ask();
        } catch (RuntimeException e) {
            got = codeOf(e);
        }
        check.due(told + what, got, ofModel.ask());
    }

    private static int codeOf(RuntimeException e) {
        if (e.getClass() == IndexOutOfBoundsException.class) {
            return Model.INDEX;
        }
        if (e.getClass() == IllegalArgumentException.class) {
            return Model.ARGUMENT;
        }
        return e.getClass() == IllegalStateException.class ? Model.STATE : -1999;
    }
}
