/** Promises 14 to 19, 22 to 25 and 27 to 30 at their edges; in which order answers come is asked in OrderTest. */
public final class ActEdgesTest {
    private static final int BAD = BloodBank.BAD, FULL = BloodBank.FULL;
    private static final int NO_ROW = BloodBank.NO_ROW, PLACE = BloodBank.PLACE, KIND = BloodBank.KIND,
        EMPTY = BloodBank.EMPTY, TAKEN = BloodBank.TAKEN, NOUGHT = BloodBank.NOUGHT, GONE = BloodBank.GONE,
        UNTESTED = BloodBank.UNTESTED, EXPIRED = BloodBank.EXPIRED, RESERVED = BloodBank.RESERVED,
        UNFIT = BloodBank.UNFIT, AS_IS = BloodBank.AS_IS;
    private static final int[] LIVES = {120, 160, 90, 40, 600, 30};
    private static final int[] GRACES = {5, 5, 7, 10, 2, 1};
    private static final Check c = new Check("ActEdgesTest");

    public static void main(String[] args) {
        layPlaces();
        layKinds();
        layBanks();
        liftPlaces();
        liftKinds();
        slideEnds();
        slideNought();
        slideTaken();
        slideOverlapping();
        goneFound();
        testedOnce();
        freeOnlyGood();
        expiryOfActs();
        expiryOfPools();
        expiryOfFrozen();
        partRoom();
        otherRoom();
        poolKinds();
        poolFromTwoOn();
        poolTests();
        poolGroupsAndSigns();
        poolWarm();
        poolBanks();
        madeAsTold();
        freezeLoss();
        freezeAndThawKinds();
        reserved();
        givenTo();
        graces();
        homeStates();
        spoilt();
        shared();
        c.end();
    }

    private static void layPlaces() {
        for (int size : new int[] {0, 1, 5, 20}) {
            BloodBank x = new BloodBank();
            Make.rack(x, size);
            Make.bags(x, Make.WHOLE, 2);
            c.says(14, "PLACE (there is no such PLACE)");
            for (int place : new int[] {-1, size, Make.DEEP, Make.FAR}) {
                c.due(PLACE, x.lay(0, 0, place));
            }
            if (size > 0) {
                c.says(14, "a BAG on its BENCH is laid into a PLACE");
                c.due(1, x.lay(0, 0, size - 1));
                c.due(size - 1, x.told(0, 15));
                c.says(14, "TAKEN");
                c.due(TAKEN, x.lay(1, 0, size - 1));
                c.due(size > 1 ? 1 : TAKEN, x.lay(1, 0, 0));
            }
        }
        BloodBank x = new BloodBank();
        x.rack(0, Make.ALL);
        Make.bag(x, Make.WHOLE);
        c.says(14, "NO_ROW");
        c.due(NO_ROW, x.lay(0, 0, 0));
        c.due(NO_ROW, x.lay(0, 0, -1));
        c.says(14, "AS_IS: it lies in a RACK");
        x.row(0, 2);
        x.lay(0, 0, 0);
        c.due(AS_IS, x.lay(0, 0, 1));
        c.due(0, x.told(0, 15));
    }

    private static void layKinds() {
        c.saysInSection(1, "a FROZEN goes where PLASMA goes, no other BAG goes where another KIND goes, but into 6");
        // for each kind of a rack, the kinds of bags that go there, as bits 0 .. 5
        int[] taking = {0x01, 0x02, 0x14, 0x08, 0x10, 0x20, 0x3F};
        for (int rackKind = 0; rackKind <= 6; rackKind++) {
            for (int kind = 0; kind < 6; kind++) {
                BloodBank x = new BloodBank();
                x.rack(0, rackKind);
                x.row(0, 1);
                int bag = Make.bag(x, kind);
                boolean goes = (taking[rackKind] >> kind & 1) == 1;
                c.due(goes ? 1 : KIND, x.lay(bag, 0, 0));
                c.due(goes ? 1 : 0, x.state(bag));
                c.due(goes ? bag : EMPTY, x.at(0, 0));
            }
        }
    }

    private static void layBanks() {
        c.says(14, "BAD: the RACK is of another BANK");
        for (int bank = 0; bank < 4; bank++) {
            for (int of = 0; of < 4; of++) {
                BloodBank x = new BloodBank();
                x.rack(of, Make.ALL);
                x.row(0, 1);
                x.take(bank, 0, 1, 1, 0, 100);
                c.due(bank == of ? 1 : BAD, x.lay(0, 0, 0));
                c.due(bank == of ? 1 : 0, x.tries(0));
            }
        }
    }

    private static void liftPlaces() {
        for (int size : new int[] {0, 1, 5, 20}) {
            BloodBank x = new BloodBank();
            Make.rack(x, size);
            Make.bag(x, Make.WHOLE);
            c.says(15, "PLACE (there is no such PLACE)");
            for (int place : new int[] {-1, size, Make.DEEP, Make.FAR}) {
                c.due(PLACE, x.lift(0, place, Make.ALL));
            }
            if (size > 0) {
                c.says(15, "EMPTY");
                c.due(EMPTY, x.lift(0, size - 1, Make.ALL));
                c.due(EMPTY, x.lift(0, 0, Make.ALL));
                x.lay(0, 0, size - 1);
                c.says(15, "the BAG in a PLACE comes to its BENCH .. its number");
                c.due(0, x.lift(0, size - 1, Make.ALL));
                c.due(0, x.state(0));
                c.due(EMPTY, x.lift(0, size - 1, Make.ALL));
            }
        }
        BloodBank x = new BloodBank();
        x.rack(0, Make.ALL);
        c.says(15, "NO_ROW");
        c.due(NO_ROW, x.lift(0, 0, Make.ALL));
        c.says(15, "its number (the last of 200)");
        x.row(0, 1);
        Make.bags(x, Make.WHOLE, 200);
        x.lay(199, 0, 0);
        c.due(199, x.lift(0, 0, Make.WHOLE));
    }

    private static void liftKinds() {
        BloodBank wrong = new BloodBank();
        Make.rack(wrong, 1);
        wrong.lay(Make.bag(wrong, Make.WHOLE), 0, 0);
        c.says(15, "BAD: kind is not 0 .. 6");
        for (int kind : new int[] {-1, 7, Make.DEEP, Make.FAR}) {
            c.due(BAD, wrong.lift(0, 0, kind));
        }
        c.due(0, wrong.tries(1));
        c.due(0, wrong.at(0, 0));
        c.says(15, "as one of a KIND (6: any)");
        // for each kind asked for, the kinds of bags that are of it, as bits 0 .. 5
        int[] being = {0x01, 0x02, 0x14, 0x08, 0x10, 0x20, 0x3F};
        for (int asked = 0; asked <= 6; asked++) {
            for (int kind = 0; kind < 6; kind++) {
                BloodBank x = new BloodBank();
                int bag = Make.bag(x, kind);
                Make.layInNewRack(x, bag);
                boolean is = (being[asked] >> kind & 1) == 1;
                c.due(is ? bag : KIND, x.lift(0, 0, asked));
                c.due(is ? 0 : 1, x.state(bag));
            }
        }
    }

    /** A row with bags in the places told; the bag in the k-th of them has the number k. */
    private static BloodBank filled(int size, int... places) {
        BloodBank x = new BloodBank();
        Make.rack(x, size);
        for (int i = 0; i < places.length; i++) {
            x.lay(Make.bag(x, Make.WHOLE), 0, places[i]);
        }
        return x;
    }

    private static void slideEnds() {
        c.says(16, "PLACE: from, to or n is below 0, or from and n, or to and n, are together above the PLACES");
        BloodBank x = filled(5, 2);
        int[][] wrong = {{-1, 0, 1}, {0, -1, 1}, {0, 1, -1}, {4, 0, 2}, {0, 4, 2}, {5, 0, 1}, {0, 5, 1}, {0, 0, 6},
            {1, 0, 5}, {0, 1, 5}, {-1, 0, 0}, {0, -1, 0}, {Make.FAR, 0, 1}, {0, Make.FAR, 1}, {1, 0, Make.FAR},
            {0, 1, Make.FAR}, {0, 0, Make.FAR}, {Make.FAR, 0, Make.FAR}, {0, Make.FAR, Make.FAR}, {Make.DEEP, 0, 1},
            {0, Make.DEEP, 1}, {0, 0, Make.DEEP}, {Make.DEEP, Make.DEEP, Make.DEEP}, {Make.FAR, Make.FAR, Make.FAR},
            {Make.DEEP, 0, Make.FAR}, {6, 6, -1}};
        for (int[] w : wrong) {
            c.due(PLACE, x.slide(0, w[0], w[1], w[2]));
        }
        c.due(0, x.at(0, 2));
        int[][] right = {{0, 0, 5}, {3, 3, 2}, {4, 0, 1}, {0, 4, 1}, {3, 0, 2}, {0, 3, 2}};
        for (int[] r : right) {
            c.due(r[2], x.slide(0, r[0], r[1], r[2]));
        }
        c.due(0, x.at(0, 2));
        c.due(2, x.slide(0, 2, 0, 2));
        c.due(0, x.at(0, 0));
        c.due(1, x.slide(0, 0, 4, 1));
        c.due(0, x.at(0, 4));
        BloodBank longest = filled(20, 0);
        c.due(20, longest.slide(0, 0, 0, 20));
        c.due(PLACE, longest.slide(0, 0, 0, 21));
        c.due(PLACE, longest.slide(0, 0, 1, 20));
        c.due(19, longest.slide(0, 0, 1, 19));
        c.due(0, longest.at(0, 1));
        c.says(16, "NO_ROW");
        longest.rack(0, Make.ALL);
        c.due(NO_ROW, longest.slide(1, 0, 0, 0));
    }

    private static void slideNought() {
        c.says(16, "above the PLACES (with n 0, too)");
        BloodBank x = filled(5, 0, 4);
        c.due(0, x.slide(0, 5, 5, 0));
        c.due(0, x.slide(0, 5, 0, 0));
        c.due(0, x.slide(0, 0, 5, 0));
        c.due(PLACE, x.slide(0, 6, 0, 0));
        c.due(PLACE, x.slide(0, 0, 6, 0));
        c.due(PLACE, x.slide(0, 6, 6, 0));
        c.says(16, "n (0: nothing comes, nothing is TAKEN)");
        c.due(0, x.slide(0, 1, 0, 0));
        c.due(0, x.slide(0, 0, 4, 0));
        c.due(0, x.at(0, 0));
        c.due(1, x.at(0, 4));
        BloodBank none = filled(0);
        c.due(0, none.slide(0, 0, 0, 0));
        c.due(PLACE, none.slide(0, 0, 0, 1));
        c.due(PLACE, none.slide(0, 1, 0, 0));
    }

    private static void slideTaken() {
        c.says(16, "TAKEN: a BAG is in one of those to which they come");
        // the first and the last place to which they come, then those just outside
        c.due(TAKEN, filled(9, 0, 4).slide(0, 0, 4, 3));
        c.due(TAKEN, filled(9, 0, 6).slide(0, 0, 4, 3));
        c.due(3, filled(9, 0, 3).slide(0, 0, 4, 3));
        c.due(3, filled(9, 0, 7).slide(0, 0, 4, 3));
        c.due(TAKEN, filled(9, 5, 1).slide(0, 5, 1, 3));
        c.due(TAKEN, filled(9, 5, 3).slide(0, 5, 1, 3));
        c.due(3, filled(9, 5, 0).slide(0, 5, 1, 3));
        c.due(3, filled(9, 5, 4).slide(0, 5, 1, 3));
        c.says(16, "(whatever comes there)");
        c.due(TAKEN, filled(9, 4).slide(0, 0, 4, 1));
        c.due(TAKEN, filled(9, 0, 5).slide(0, 0, 4, 2));
        BloodBank x = filled(9, 0, 5);
        c.due(TAKEN, x.slide(0, 0, 4, 2));
        c.due(0, x.at(0, 0));
        c.due(1, x.at(0, 5));
        c.due(0, x.told(0, 15));
        c.due(EMPTY, x.at(0, 4));
    }

    private static void slideOverlapping() {
        c.says(16, "and that is not one of those that go");
        BloodBank x = filled(5, 0, 1, 2);
        c.due(3, x.slide(0, 0, 1, 3));
        dueRow(x, EMPTY, 0, 1, 2, EMPTY);
        c.due(3, x.slide(0, 1, 2, 3));
        dueRow(x, EMPTY, EMPTY, 0, 1, 2);
        c.due(3, x.slide(0, 2, 0, 3));
        dueRow(x, 0, 1, 2, EMPTY, EMPTY);
        c.due(TAKEN, x.slide(0, 0, 1, 2));
        c.due(TAKEN, x.slide(0, 1, 0, 2));
        c.due(3, x.slide(0, 0, 0, 3));
        dueRow(x, 0, 1, 2, EMPTY, EMPTY);
        c.says(16, "what is in n PLACES (BAGS, and none) comes .. as it was ahead; PLACES left by that are empty");
        BloodBank y = filled(5, 0, 2);
        c.due(4, y.slide(0, 0, 1, 4));
        dueRow(y, EMPTY, 0, EMPTY, 1, EMPTY);
        c.due(4, y.slide(0, 1, 0, 4));
        dueRow(y, 0, EMPTY, 1, EMPTY, EMPTY);
        c.due(3, y.slide(0, 0, 2, 3));
        dueRow(y, EMPTY, EMPTY, 0, EMPTY, 1);
        c.due(EMPTY, y.lift(0, 0, Make.ALL));
        c.due(0, y.lift(0, 2, Make.ALL));
    }

    private static void dueRow(BloodBank x, int... row) {
        for (int place = 0; place < row.length; place++) {
            c.due(row[place], x.at(0, place));
            if (row[place] >= 0) {
                c.due(place, x.told(row[place], 15));
                c.due(0, x.told(row[place], 14));
            }
        }
    }

    /** Every act that tells GONE, with a bag in each of the six states. */
    private static void goneFound() {
        int[] acts = {0, 3, 4, 5, 7, 8, 9, 10, 12, 13};
        int[] promises = {14, 17, 18, 19, 23, 24, 25, 27, 29, 30};
        for (int i = 0; i < acts.length; i++) {
            c.says(promises[i], "GONE (2 to 5 are GONE)");
            for (int state = 0; state < 6; state++) {
                BloodBank x = new BloodBank();
                x.patient(1, 0);
                int bag = Make.inState(x, state);
                int rack = Make.rack(x, 1);
                int answer = act(x, acts[i], bag, rack);
                c.due(state >= 2 ? answer == GONE : answer != GONE, "state " + state + " answered " + answer);
                c.due(Math.min(answer, 0), x.status());
                c.due(state == 0 && acts[i] == 0 ? bag : EMPTY, x.at(rack, 0));
            }
        }
    }

    private static int act(BloodBank x, int act, int bag, int rack) {
        switch (act) {
            case 0: return x.lay(bag, rack, 0);
            case 3: return x.test(bag, true);
            case 4: return x.free(bag);
            case 5: return x.part(bag);
            case 7: return x.freeze(bag);
            case 8: return x.thaw(bag);
            case 9: return x.reserve(bag, 0);
            case 10: return x.give(bag, 0);
            case 12: return x.spoil(bag);
            default: return x.share(bag, 1);
        }
    }

    private static void testedOnce() {
        c.says(17, "AS_IS: it is TESTED");
        for (int good = 0; good < 2; good++) {
            BloodBank x = new BloodBank();
            Make.bag(x, Make.WHOLE);
            c.due(0, x.told(0, 0));
            c.due(1, x.test(0, good == 1));
            c.due(2 - good, x.told(0, 0));
            c.due(AS_IS, x.test(0, true));
            c.due(AS_IS, x.test(0, false));
            c.due(2 - good, x.told(0, 0));
        }
    }

    private static void freeOnlyGood() {
        BloodBank x = new BloodBank();
        Make.bags(x, Make.WHOLE, 3);
        c.says(18, "UNTESTED");
        c.due(UNTESTED, x.free(0));
        c.says(18, "AS_IS: it is TESTED bad, or FREE");
        x.test(1, false);
        c.due(AS_IS, x.free(1));
        c.due(0, x.told(1, 1));
        x.test(2, true);
        c.due(1, x.free(2));
        c.due(AS_IS, x.free(2));
        c.due(1, x.told(2, 1));
    }

    /** Each act that tells EXPIRED, and match(): a minute ahead, at the minute, a minute behind. */
    private static void expiryOfActs() {
        int[] promises = {18, 19, 22, 23, 27, 42};
        int[] kinds = {Make.PLATELETS, Make.WHOLE, Make.PLATELETS, Make.PLASMA, Make.CELLS, Make.CELLS};
        for (int which = 0; which < promises.length; which++) {
            c.says(promises[which], "EXPIRED is a BAG when the MINUTE is the one at which it expires, or later");
            for (int over = -1; over <= 1; over++) {
                BloodBank x = new BloodBank();
                x.patient(1, 0);
                int bag = Make.bag(x, kinds[which]);
                int other = Make.bag(x, kinds[which]);
                x.test(bag, true);
                if (which > 3) {
                    x.free(bag);
                }
                Make.pass(x, LIVES[kinds[which]] + over);
                c.due(LIVES[kinds[which]], x.told(bag, 10));
                int late = which == 5 ? EMPTY : EXPIRED;
                int[] inTime = {1, 2, 2, 2, 1, bag};
                c.due(over < 0 ? inTime[which] : late, expiring(x, which, bag, other));
            }
        }
    }

    private static int expiring(BloodBank x, int which, int bag, int other) {
        switch (which) {
            case 0: return x.free(bag);
            case 1: return x.part(bag);
            case 2: return Make.pool(x, Make.PLATELETS, bag, other);
            case 3: return x.freeze(bag);
            case 4: return x.give(bag, 0);
            default: return x.match(0, Make.CELLS);
        }
    }

    private static void expiryOfPools() {
        c.says(22, "it expires its LIFE behind this MINUTE");
        for (int over = -1; over <= 0; over++) {
            BloodBank x = new BloodBank();
            x.patient(1, 0);
            Make.pass(x, 3);
            int pool = Make.ready(x, Make.POOL);
            c.due(33, x.told(pool, 10));
            Make.pass(x, 30 + over);
            c.due(over < 0 ? 1 : EXPIRED, x.give(pool, 0));
        }
    }

    /** A FROZEN lives for 600 minutes, more than an object has calls: it never expires within what is promised. */
    private static void expiryOfFrozen() {
        c.says(24, "EXPIRED (not within the 512 calls of an object)");
        BloodBank x = new BloodBank();
        int frozen = Make.bag(x, Make.FROZEN);
        Make.pass(x, 500);
        c.due(600, x.told(frozen, 10));
        c.due(frozen + 1, x.thaw(frozen));
        c.due(590, x.told(frozen + 1, 10));
    }

    private static void partRoom() {
        c.says(19, "FULL: not three BAGS more");
        for (int there = 196; there <= 200; there++) {
            BloodBank x = new BloodBank();
            Make.bags(x, Make.WHOLE, there);
            c.due(there <= 197 ? there : FULL, x.part(0));
            c.due(there <= 197 ? there + 3 : there, x.count(1));
            c.due(there <= 197 ? 3 : 0, x.state(0));
            c.due(there <= 197 ? 1 : 0, x.tries(5));
            c.due(there <= 197 ? 0 : FULL, x.status());
        }
    }

    private static void otherRoom() {
        for (int act = 6; act <= 8; act++) {
            c.says(act + 16, "FULL");
            for (int there = 198; there <= 200; there++) {
                BloodBank x = new BloodBank();
                int frozen = Make.bag(x, Make.FROZEN);
                Make.bags(x, Make.PLASMA, there);
                x.tray(2);
                x.tray(3);
                int answer = act == 6 ? x.pool(Make.PLASMA) : act == 7 ? x.freeze(2) : x.thaw(frozen);
                c.due(there < 200 ? there : FULL, answer);
                c.due(Math.min(there + 1, 200), x.count(1));
                c.due(there < 200 && act == 6 ? 0 : 2, x.count(4));
            }
        }
    }

    private static void poolKinds() {
        BloodBank x = new BloodBank();
        x.tray(Make.bag(x, Make.PLASMA));
        x.tray(Make.bag(x, Make.PLASMA));
        c.says(22, "BAD: kind is not 2, 3");
        for (int kind : new int[] {Make.DEEP, -1, 0, 1, 4, 5, 6, Make.FAR}) {
            c.due(BAD, x.pool(kind));
        }
        c.due(0, x.tries(6));
        c.due(2, x.count(4));
        c.says(22, "KIND: of a KIND (2 PLASMA, FROZEN ones, too, 3 PLATELETS)");
        int[][] poolable = {{0, 0, 1, 0, 1, 0}, {0, 0, 0, 1, 0, 0}};
        for (int kind = 2; kind <= 3; kind++) {
            for (int other = 0; other < 6; other++) {
                BloodBank y = new BloodBank();
                int one = Make.bag(y, kind);
                int two = Make.bag(y, other);
                int made = y.count(1);
                c.due(poolable[kind - 2][other] == 1 ? made : KIND, Make.pool(y, kind, one, two));
            }
        }
    }

    private static void poolFromTwoOn() {
        for (int n = 0; n <= 6; n++) {
            BloodBank x = new BloodBank();
            for (int i = 0; i < n; i++) {
                x.tray(x.take(2, Make.PLATELETS, 1, 7, 1 << i, 2000));
            }
            c.says(22, "EMPTY: fewer than two are on it");
            c.due(n < 2 ? EMPTY : n, x.pool(Make.PLATELETS));
            c.due(n < 2 ? n : 0, x.count(4));
            c.due(1, x.tries(6));
            if (n >= 2) {
                c.says(22, "its SIGNS those that one has; GRAMS are the sum; of the BANK of the first, DONOR -1");
                c.due((1 << n) - 1, x.told(n, 7));
                c.due(2000 * n, x.told(n, 8));
                c.due(2, x.told(n, 13));
                c.due(-1, x.told(n, 5));
                c.says(38, "of a POOL in the order of the TRAY");
                c.due(n - 1, x.from(n, n - 1));
                c.due(BloodBank.NONE, x.from(n, n));
            }
        }
    }

    /** All are good but one, which is the first, the last or one between. */
    private static void poolTests() {
        c.says(22, "TESTED good if all are, bad if one is bad, else not");
        for (int how = 0; how < 3; how++) {
            for (int odd = 0; odd < 3; odd++) {
                BloodBank x = new BloodBank();
                Make.bags(x, Make.PLASMA, 3);
                for (int i = 0; i < 3; i++) {
                    if (i != odd || how > 0) {
                        x.test(i, i != odd || how == 1);
                    }
                }
                c.due(3, Make.pool(x, Make.PLASMA, 0, 1, 2));
                c.due(how, x.told(3, 0));
            }
        }
        BloodBank x = new BloodBank();
        Make.bags(x, Make.PLASMA, 4);
        x.test(0, false);
        c.due(2, x.told(Make.pool(x, Make.PLASMA, 0, 1), 0));
        x.test(2, false);
        c.due(2, x.told(Make.pool(x, Make.PLASMA, 3, 2), 0));
    }

    /** All pairs of groups; signs at both ends of the 16 bits. */
    private static void poolGroupsAndSigns() {
        c.says(22, "its GROUP has the bits that all have, its SIGNS those that one has");
        for (int one = 0; one < 8; one++) {
            BloodBank x = new BloodBank();
            for (int other = 0; other < 8; other++) {
                int a = x.take(0, Make.PLASMA, 1, one, 1 << 2 * one, 1);
                int b = x.take(0, Make.PLASMA, 1, other, 1 << 2 * other + 1, 1);
                int pool = Make.pool(x, Make.PLASMA, a, b);
                c.due(one & other, x.told(pool, 6));
                c.due(1 << 2 * one | 1 << 2 * other + 1, x.told(pool, 7));
            }
            int none = Make.pool(x, Make.PLASMA, x.take(0, 2, 1, 7, 0, 1), x.take(0, 2, 1, 7, 0, 1));
            c.due(7, x.told(none, 6));
            c.due(0, x.told(none, 7));
        }
    }

    private static void poolWarm() {
        c.says(22, "WARM if one is; not FREE, RECALLED, RESERVED; no UNREAD MINUTES, no ROW OF MINUTES");
        for (int warm = 0; warm < 4; warm++) {
            BloodBank x = new BloodBank();
            for (int i = 0; i < 3; i++) {
                Make.ready(x, Make.PLATELETS);
            }
            x.minute();
            if (warm < 3) {
                Make.warm(x, warm);
            }
            c.due(3, Make.pool(x, Make.PLATELETS, 0, 1, 2));
            int[] told = {1, 0, warm < 3 ? 1 : 0, 0, -9, -1, 1, 0, 300, 0, warm < 3 ? 39 : 31, 0, 0};
            for (int what = 0; what < told.length; what++) {
                c.due(told[what], x.told(3, what));
            }
        }
    }

    /** What part(), freeze() and thaw() make, of bags tested or not, free or not, warm or not. */
    private static void madeAsTold() {
        c.says(19, "TESTED and WARM as it is, not FREE, RECALLED, RESERVED; .. no UNREAD MINUTES, no ROW OF MINUTES");
        int[] kinds = {Make.WHOLE, Make.PLASMA, Make.FROZEN};
        for (int kind : kinds) {
            for (int how = 0; how < 8; how++) {
                BloodBank x = new BloodBank();
                int bag = Make.bag(x, kind);
                if (how % 4 > 0) {
                    x.test(bag, how % 4 < 3);
                }
                if (how % 4 == 1) {
                    x.free(bag);
                }
                x.minute();
                if (how >= 4) {
                    Make.warm(x, bag);
                }
                int made = kind == Make.WHOLE ? x.part(bag) : kind == Make.PLASMA ? x.freeze(bag) : x.thaw(bag);
                c.due(bag + 1, made);
                for (int i = made; i < x.count(1); i++) {
                    int[] told = {how % 4 == 0 ? 0 : how % 4 < 3 ? 1 : 2, 0, how / 4, 0, -9, 1, 1, 0};
                    for (int what = 0; what < told.length; what++) {
                        c.due(told[what], x.told(i, what));
                    }
                    c.due(x.count(3) + LIVES[x.kindOf(i)], x.told(i, 10));
                    c.due(0, x.told(i, 11));
                    c.due(0, x.told(i, 12));
                    c.due(0, x.state(i));
                }
            }
        }
    }

    private static void poolBanks() {
        c.says(22, "AS_IS: of another BANK than the first");
        for (int odd = 0; odd < 3; odd++) {
            BloodBank x = new BloodBank();
            Make.bags(x, Make.PLASMA, 3);
            x.send(odd, 3);
            c.due(AS_IS, Make.pool(x, Make.PLASMA, 0, 1, 2));
            c.due(3, x.count(4));
            for (int i = 0; i < 3; i++) {
                c.due(0, x.state(i));
                if (i != odd) {
                    x.send(i, 3);
                }
            }
            c.due(3, x.pool(Make.PLASMA));
            c.due(3, x.told(3, 13));
        }
    }

    private static void freezeLoss() {
        c.says(23, "GRAMS less the LOSS, GRAMS / 50 cut");
        int[] grams = {1, 49, 50, 51, 99, 100, 149, 150, 1999, 2000};
        int[] losses = {0, 0, 1, 1, 1, 2, 2, 3, 39, 40};
        for (int i = 0; i < grams.length; i++) {
            BloodBank x = new BloodBank();
            x.take(0, Make.PLASMA, 1, 1, 0, grams[i]);
            c.due(1, x.freeze(0));
            c.due(grams[i] - losses[i], x.told(1, 8));
            c.due(losses[i], x.told(0, 9));
            c.due(2, x.thaw(1));
            c.says(24, "likewise, without LOSS");
            c.due(grams[i] - losses[i], x.told(2, 8));
            c.due(0, x.told(1, 9));
        }
        c.says(19, "GRAMS are by SHARES (a part may have none, and none is lost of it)");
        BloodBank x = new BloodBank();
        x.take(0, Make.WHOLE, 1, 1, 0, 1);
        x.part(0);
        c.due(0, x.told(2, 8));
        c.due(4, x.freeze(2));
        c.due(0, x.told(4, 8));
        c.due(0, x.share(4, 1));
    }

    private static void freezeAndThawKinds() {
        for (int kind = 0; kind < 6; kind++) {
            BloodBank x = new BloodBank();
            int bag = Make.bag(x, kind);
            int next = x.count(1);
            c.says(19, "KIND");
            if (kind != Make.WHOLE) {
                c.due(KIND, x.part(bag));
            }
            c.says(23, "KIND; AS_IS: it is a FROZEN");
            if (kind != Make.PLASMA) {
                c.due(kind == Make.FROZEN ? AS_IS : KIND, x.freeze(bag));
            }
            c.says(24, "KIND");
            c.due(kind == Make.FROZEN ? next : KIND, x.thaw(bag));
            c.due(kind == Make.FROZEN ? 3 : 0, x.state(bag));
        }
    }

    private static void reserved() {
        BloodBank x = new BloodBank();
        x.patient(1, 0);
        x.patient(5, 0);
        x.patient(0, 0);
        Make.bags(x, Make.CELLS, 2);
        c.says(25, "UNFIT");
        c.due(UNFIT, x.reserve(0, 2));
        c.due(-9, x.told(0, 4));
        c.says(25, "a BAG is RESERVED for a PATIENT (the first, the last): 1");
        c.due(1, x.reserve(0, 0));
        c.due(0, x.told(0, 4));
        c.due(1, x.reserve(1, 1));
        c.due(1, x.told(1, 4));
        c.says(25, "RESERVED: it is, for anyone");
        c.due(RESERVED, x.reserve(0, 0));
        c.due(RESERVED, x.reserve(0, 1));
        c.due(0, x.told(0, 4));
    }

    private static void givenTo() {
        for (int way = 0; way < 3; way++) {
            BloodBank x = new BloodBank();
            x.patient(1, 0);
            x.patient(1, 0);
            int bag = Make.ready(x, Make.CELLS);
            if (way > 0) {
                x.reserve(bag, way - 1);
            }
            c.says(27, "RESERVED: for another one");
            c.due(way == 2 ? RESERVED : 1, x.give(bag, 0));
            c.says(27, "it is AWAY from this MINUTE on, RESERVED no more");
            c.due(way == 2 ? -9 : 0, x.told(bag, 16));
            c.due(way == 2 ? 1 : -9, x.told(bag, 4));
            c.due(way == 2 ? 0 : 2, x.state(bag));
        }
        BloodBank x = new BloodBank();
        x.patient(1, 0);
        c.says(27, "UNTESTED: it is not TESTED good");
        Make.bags(x, Make.CELLS, 2);
        x.test(0, false);
        c.due(UNTESTED, x.give(0, 0));
        c.due(UNTESTED, x.give(1, 0));
        x.test(1, true);
        c.due(BloodBank.UNFREE, x.give(1, 0));
        x.free(1);
        Make.pass(x, 4);
        c.due(1, x.give(1, 0));
        c.due(4, x.told(1, 16));
    }

    private static void graces() {
        for (int kind = 0; kind < 6; kind++) {
            for (int minutes = 0; minutes <= GRACES[kind] + 2; minutes++) {
                BloodBank x = new BloodBank();
                x.patient(1, 0);
                x.minute();
                int bag = Make.ready(x, kind);
                c.due(1, x.give(bag, 0));
                Make.pass(x, minutes);
                boolean inTime = minutes <= GRACES[kind];
                c.says(28, "if it was AWAY for more MINUTES than its GRACE it is SPOILT: 0 (done, too)");
                x.test(bag, true);
                c.due(GONE, x.status());
                c.due(inTime ? 1 : 0, x.home(bag));
                c.due(0, x.status());
                c.due(inTime ? 0 : 5, x.state(bag));
                c.due(-9, x.told(bag, 16));
                c.due(1, x.tries(11));
            }
        }
    }

    private static void homeStates() {
        c.says(28, "AS_IS: it is not AWAY");
        for (int state = 0; state < 6; state++) {
            BloodBank x = new BloodBank();
            int bag = Make.inState(x, state);
            c.due(state == Make.AWAY ? 1 : AS_IS, x.home(bag));
            c.due(state == Make.AWAY ? 0 : state, x.state(bag));
        }
    }

    private static void spoilt() {
        c.says(29, "a BAG is SPOILT: 1 .. GONE");
        for (int state = 0; state < 6; state++) {
            BloodBank x = new BloodBank();
            int bag = Make.inState(x, state);
            c.due(state < 2 ? 1 : GONE, x.spoil(bag));
            c.due(state < 2 ? 5 : state, x.state(bag));
            c.due(GONE, x.spoil(bag));
        }
    }

    private static void shared() {
        BloodBank x = new BloodBank();
        x.take(0, 0, 1, 1, 0, 2000);
        c.says(30, "BAD: n below 0");
        c.due(BAD, x.share(0, -1));
        c.due(BAD, x.share(0, Make.DEEP));
        c.due(0, x.tries(13));
        c.says(30, "NOUGHT: n is 0");
        c.due(NOUGHT, x.share(0, 0));
        c.due(1, x.tries(13));
        c.says(30, "how many GRAMS each of n would have of a BAG, cut");
        int[] n = {1, 2, 3, 1000, 1001, 1999, 2000, 2001, Make.FAR};
        int[] each = {2000, 1000, 666, 2, 1, 1, 1, 0, 0};
        for (int i = 0; i < n.length; i++) {
            c.due(each[i], x.share(0, n[i]));
            c.due(0, x.status());
        }
        c.due(2000, x.told(0, 8));
    }
}
