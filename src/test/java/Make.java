/** Makes bags as the tests of edges need them: of donor 1 and group 1 (A), in bank 0, of 100 grams. */
final class Make {
    static final int WHOLE = 0, CELLS = 1, PLASMA = 2, PLATELETS = 3, FROZEN = 4, POOL = 5, ALL = 6;
    static final int ON_BENCH = 0, IN_RACK = 1, AWAY = 2, PARTED = 3, POOLED = 4, SPOILT = 5;
    static final int FAR = Integer.MAX_VALUE, DEEP = Integer.MIN_VALUE;
    private static final int[] SPANS = {3, 3, 5, 8, 2, 4};

    private Make() {
    }

    static int bag(BloodBank x, int kind) {
        return bag(x, kind, 1);
    }

    static int bag(BloodBank x, int kind, int donor) {
        switch (kind) {
            case FROZEN: return x.freeze(bag(x, PLASMA, donor));
            case POOL: return pool(x, PLASMA, bag(x, PLASMA, donor), bag(x, PLASMA, donor));
            default: return x.take(0, kind, donor, 1, 0, 100);
        }
    }

    static void bags(BloodBank x, int kind, int upTo) {
        for (int i = x.count(1); i < upTo; i++) {
            bag(x, kind);
        }
    }

    static int pool(BloodBank x, int kind, int... sources) {
        x.untray();
        for (int source : sources) {
            x.tray(source);
        }
        return x.pool(kind);
    }

    static int ready(BloodBank x, int kind) {
        int bag = bag(x, kind);
        x.test(bag, true);
        x.free(bag);
        return bag;
    }

    /** A new rack of bank 0 for all kinds, with a row of so many places. */
    static int rack(BloodBank x, int places) {
        int rack = x.rack(0, ALL);
        x.row(rack, places);
        return rack;
    }

    static int layInNewRack(BloodBank x, int bag) {
        int rack = rack(x, 1);
        x.lay(bag, rack, 0);
        return rack;
    }

    static void pass(BloodBank x, int minutes) {
        for (int i = 0; i < minutes; i++) {
            x.minute();
        }
    }

    static void passUntil(BloodBank x, int minute) {
        pass(x, minute - x.count(3));
    }

    /** Warms a bag on its bench just as long as it takes, and brings it back there. */
    static void warm(BloodBank x, int bag) {
        int rack = layInNewRack(x, bag);
        x.probe(rack, true);
        for (int i = SPANS[x.kindOf(bag)]; i > 0; i--) {
            x.cold(rack, 500);
            x.minute();
        }
        x.lift(rack, 0, ALL);
    }

    /** A new bag that IS as told (0 .. 5), of a kind that can be so. */
    static int inState(BloodBank x, int state) {
        int bag = ready(x, state == POOLED ? PLATELETS : WHOLE);
        switch (state) {
            case IN_RACK: layInNewRack(x, bag); break;
            case AWAY: x.give(bag, x.patient(1, 0)); break;
            case PARTED: x.part(bag); break;
            case POOLED: pool(x, PLATELETS, bag, bag(x, PLATELETS)); break;
            case SPOILT: x.spoil(bag); break;
            default: break;
        }
        return bag;
    }
}
