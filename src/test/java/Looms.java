/** Looms that several tests begin with. */
final class Looms {
    private Looms() {
    }

    static DetourLoom withCrossings(int count) {
        DetourLoom loom = new DetourLoom();
        for (int i = 0; i < count; i++) {
            loom.addCrossing();
        }
        return loom;
    }

    /** Crossings in a row, with plain roads of these lengths from each to the next. */
    static DetourLoom row(int... lengths) {
        DetourLoom loom = withCrossings(lengths.length + 1);
        for (int i = 0; i < lengths.length; i++) {
            loom.addRoad(i, i + 1, lengths[i], 0);
        }
        return loom;
    }

    static void addTourists(DetourLoom loom, int count, int from, int goal) {
        for (int i = 0; i < count; i++) {
            loom.addTourist(from, goal);
        }
    }
}
