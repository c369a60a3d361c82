/**
 * Section 4: refusals come in the order NONE, BAD, FULL, ahead of all that is found, and of what is found that comes
 * which is told first with an act. Bags are made with every set of flaws that can stand together, and the first
 * flaw in the document's order is due.
 */
public final class OrderTest {
    private static final int NONE = BloodBank.NONE, BAD = BloodBank.BAD, FULL = BloodBank.FULL;
    private static final int NO_ROW = BloodBank.NO_ROW, PLACE = BloodBank.PLACE, KIND = BloodBank.KIND,
        EMPTY = BloodBank.EMPTY, TAKEN = BloodBank.TAKEN, NOUGHT = BloodBank.NOUGHT, GONE = BloodBank.GONE,
        UNTESTED = BloodBank.UNTESTED, UNFREE = BloodBank.UNFREE, WARM = BloodBank.WARM,
        EXPIRED = BloodBank.EXPIRED, RECALLED = BloodBank.RECALLED, RESERVED = BloodBank.RESERVED,
        UNFIT = BloodBank.UNFIT, AS_IS = BloodBank.AS_IS;
    /** Of these bits sets of flaws are made. */
    private static final int IS_GONE = 1, IS_UNTESTED = 2, IS_POOR = 4, IS_FREE = 8, IS_WARM = 16, IS_EXPIRED = 32,
        IS_RECALLED = 64, IS_RESERVED = 128, ALL_FLAWS = 255;
    private static final int FITTING = 0, UNFITTING = 1, ANOTHER = 2, NOBODY = 3;
    private static final int LATER_DONOR = 2;
    private static final Check c = new Check("OrderTest");

    public static void main(String[] args) {
        laying();
        layingGone();
        layingLying();
        lifting();
        sliding();
        testing();
        freeing();
        parting();
        partingFull();
        poolingRefused();
        poolingOne();
        poolingTwo();
        freezing();
        thawing();
        makingFull();
        reserving();
        giving();
        homeAndSpoil();
        sharing();
        questions();
        c.end();
    }

    private static BloodBank withPatients() {
        BloodBank x = new BloodBank();
        x.patient(1, 0);
        x.patient(2, 0);
        x.patient(1, 0);
        return x;
    }

    private static boolean has(int flaws, int flaw) {
        return (flaws & flaw) != 0;
    }

    /** Whether a bag can be so: only what was tested good can be free, and what is untested is not tested bad. */
    private static boolean canBe(int flaws) {
        return !(has(flaws, IS_UNTESTED) && has(flaws, IS_POOR))
            && !(has(flaws, IS_FREE) && (has(flaws, IS_UNTESTED) || has(flaws, IS_POOR)));
    }

    /** A new bag of donor 1 with just these flaws, made one by one in an order that lets each come about. */
    private static int flawed(BloodBank x, int kind, int flaws) {
        int bag = Make.bag(x, kind);
        if (!has(flaws, IS_UNTESTED)) {
            x.test(bag, !has(flaws, IS_POOR));
        }
        if (has(flaws, IS_FREE)) {
            x.free(bag);
        }
        if (has(flaws, IS_RESERVED)) {
            x.reserve(bag, ANOTHER);
        }
        if (has(flaws, IS_WARM)) {
            Make.warm(x, bag);
        }
        if (has(flaws, IS_EXPIRED)) {
            Make.passUntil(x, x.told(bag, 10));
        }
        if (has(flaws, IS_RECALLED)) {
            x.recall(1);
        }
        if (has(flaws, IS_GONE)) {
            x.spoil(bag);
        }
        dueFlaws(x, bag, flaws);
        return bag;
    }

    private static void dueFlaws(BloodBank x, int bag, int flaws) {
        c.due(has(flaws, IS_GONE) ? 5 : 0, x.state(bag));
        c.due(has(flaws, IS_UNTESTED) ? 0 : has(flaws, IS_POOR) ? 2 : 1, x.told(bag, 0));
        c.due(has(flaws, IS_FREE) ? 1 : 0, x.told(bag, 1));
        c.due(has(flaws, IS_WARM) ? 1 : 0, x.told(bag, 2));
        c.due(has(flaws, IS_RECALLED) ? 1 : 0, x.told(bag, 3));
        c.due(has(flaws, IS_RESERVED) ? ANOTHER : -9, x.told(bag, 4));
        c.due(has(flaws, IS_EXPIRED) == x.count(3) >= x.told(bag, 10), "expired or not");
    }

    private static void refused(BloodBank x, int act, int want, int got) {
        c.due(want, got);
        c.due(want, x.status());
        c.due(0, x.tries(act));
        c.due(0, x.locked());
    }

    private static void tried(BloodBank x, int act, int want, int got) {
        c.due(want, got);
        c.due(Math.min(want, 0), x.status());
        c.due(1, x.tries(act));
        c.due(0, x.locked());
    }

    /** Of the pairs {whether it is so, what is then due} the first that is so, else what is due without any. */
    private static int first(int without, Object... pairs) {
        for (int i = 0; i < pairs.length; i += 2) {
            if ((Boolean) pairs[i]) {
                return (Integer) pairs[i + 1];
            }
        }
        return without;
    }

    /** No row, no such place, a bag there already, another kind: all sets of these, and another bank with them. */
    private static void laying() {
        c.says(14, "BAD .. NO_ROW; PLACE; TAKEN; KIND");
        for (int set = 0; set < 32; set++) {
            boolean otherBank = has(set, 1), noRow = has(set, 2), noPlace = has(set, 4), taken = has(set, 8),
                otherKind = has(set, 16);
            BloodBank x = new BloodBank();
            x.rack(0, Make.CELLS);
            if (!noRow) {
                x.row(0, 2);
            }
            int there = Make.bag(x, Make.CELLS);
            int bag = x.take(otherBank ? 1 : 0, otherKind ? Make.WHOLE : Make.CELLS, 1, 1, 0, 100);
            int before = 0;
            if (taken && !noRow) {
                x.lay(there, 0, 1);
                before = 1;
            }
            int due = first(1, otherBank, BAD, noRow, NO_ROW, noPlace, PLACE, taken, TAKEN, otherKind, KIND);
            c.due(due, x.lay(bag, 0, noPlace ? 2 : 1));
            c.due(Math.min(due, 0), x.status());
            c.due(due == BAD ? before : before + 1, x.tries(0));
            c.due(NONE, x.lay(bag, 1, 2));
            c.due(NONE, x.lay(9, 0, 2));
        }
    }

    private static void layingGone() {
        c.says(14, "BAD .. GONE; NO_ROW; PLACE; TAKEN; KIND");
        BloodBank x = new BloodBank();
        int gone = Make.bag(x, Make.WHOLE);
        x.rack(1, Make.ALL);
        x.rack(0, Make.CELLS);
        x.spoil(gone);
        c.due(BAD, x.lay(gone, 0, 0));
        c.due(NONE, x.lay(gone, 2, 0));
        c.due(GONE, x.lay(gone, 1, 0));
        x.row(1, 1);
        c.due(GONE, x.lay(gone, 1, 1));
        c.due(GONE, x.lay(gone, 1, 0));
        x.lay(Make.bag(x, Make.CELLS), 1, 0);
        c.due(GONE, x.lay(gone, 1, 0));
        c.due(1, x.at(1, 0));
    }

    private static void layingLying() {
        c.says(14, "BAD .. AS_IS: it lies in a RACK; NO_ROW; PLACE; TAKEN; KIND");
        BloodBank x = new BloodBank();
        int bag = Make.bag(x, Make.WHOLE);
        Make.layInNewRack(x, bag);
        x.rack(1, Make.ALL);
        x.rack(0, Make.CELLS);
        c.due(BAD, x.lay(bag, 1, 0));
        c.due(NONE, x.lay(bag, 3, 0));
        c.due(AS_IS, x.lay(bag, 2, 0));
        x.row(2, 1);
        c.due(AS_IS, x.lay(bag, 2, 1));
        c.due(AS_IS, x.lay(bag, 2, 0));
        x.lay(Make.bag(x, Make.CELLS), 2, 0);
        c.due(AS_IS, x.lay(bag, 2, 0));
        c.due(AS_IS, x.lay(bag, 0, 0));
        c.due(0, x.told(bag, 14));
    }

    private static void lifting() {
        c.says(15, "NONE; BAD. NO_ROW; PLACE; EMPTY; KIND");
        BloodBank x = new BloodBank();
        x.rack(0, Make.ALL);
        refused(x, 1, NONE, x.lift(1, 0, 7));
        refused(x, 1, BAD, x.lift(0, 0, 7));
        tried(x, 1, NO_ROW, x.lift(0, -1, Make.CELLS));
        x.row(0, 1);
        c.due(BAD, x.lift(0, 1, 7));
        c.due(BAD, x.lift(0, 0, -1));
        c.due(PLACE, x.lift(0, 1, Make.CELLS));
        c.due(EMPTY, x.lift(0, 0, Make.CELLS));
        x.lay(Make.bag(x, Make.WHOLE), 0, 0);
        c.due(BAD, x.lift(0, 0, 7));
        c.due(PLACE, x.lift(0, 1, Make.CELLS));
        c.due(KIND, x.lift(0, 0, Make.CELLS));
        c.due(0, x.lift(0, 0, Make.WHOLE));
    }

    private static void sliding() {
        c.says(16, "NONE. NO_ROW; PLACE; TAKEN");
        BloodBank x = new BloodBank();
        x.rack(0, Make.ALL);
        refused(x, 2, NONE, x.slide(1, -1, 0, 1));
        tried(x, 2, NO_ROW, x.slide(0, -1, 0, 1));
        x.row(0, 3);
        x.lay(Make.bag(x, Make.WHOLE), 0, 0);
        c.due(PLACE, x.slide(0, 3, 0, 1));
        c.due(PLACE, x.slide(0, 2, 0, 2));
        c.due(PLACE, x.slide(0, -1, 0, 1));
        c.due(TAKEN, x.slide(0, 2, 0, 1));
        c.due(0, x.slide(0, 2, 0, 0));
    }

    private static void testing() {
        c.says(17, "NONE. GONE; AS_IS");
        for (int flaws = 0; flaws <= ALL_FLAWS; flaws++) {
            if (canBe(flaws)) {
                BloodBank x = withPatients();
                int bag = flawed(x, Make.PLATELETS, flaws);
                int due = first(1, has(flaws, IS_GONE), GONE, !has(flaws, IS_UNTESTED), AS_IS);
                c.due(due, x.test(bag, true));
                c.due(Math.min(due, 0), x.status());
                c.due(NONE, x.test(bag + 1, true));
            }
        }
    }

    private static void freeing() {
        c.says(18, "NONE. GONE; UNTESTED; AS_IS; WARM; EXPIRED; RECALLED");
        for (int flaws = 0; flaws <= ALL_FLAWS; flaws++) {
            if (canBe(flaws)) {
                BloodBank x = withPatients();
                int bag = flawed(x, Make.PLATELETS, flaws);
                int tries = x.tries(4);
                int due = first(1, has(flaws, IS_GONE), GONE, has(flaws, IS_UNTESTED), UNTESTED,
                    has(flaws, IS_POOR) || has(flaws, IS_FREE), AS_IS, has(flaws, IS_WARM), WARM,
                    has(flaws, IS_EXPIRED), EXPIRED, has(flaws, IS_RECALLED), RECALLED);
                c.due(due, x.free(bag));
                c.due(Math.min(due, 0), x.status());
                c.due(tries + 1, x.tries(4));
                c.due(due == 1 || has(flaws, IS_FREE) ? 1 : 0, x.told(bag, 1));
                c.due(NONE, x.free(bag + 1));
            }
        }
    }

    /** What part(), pool(), freeze() and thaw() find last; tests, freedom and warmth do not hinder them. */
    private static int heldBack(int flaws, int without) {
        return first(without, has(flaws, IS_RESERVED), RESERVED, has(flaws, IS_EXPIRED), EXPIRED,
            has(flaws, IS_RECALLED), RECALLED);
    }

    private static void parting() {
        c.says(19, "GONE; KIND; RESERVED; EXPIRED; RECALLED");
        for (int flaws = 0; flaws <= ALL_FLAWS; flaws++) {
            for (int kind = 0; kind < 4 && canBe(flaws); kind++) {
                BloodBank x = withPatients();
                int bag = flawed(x, kind, flaws);
                int due = first(heldBack(flaws, bag + 1), has(flaws, IS_GONE), GONE, kind != Make.WHOLE, KIND);
                tried(x, 5, due, x.part(bag));
                c.due(NONE, x.part(200));
            }
        }
    }

    private static void partingFull() {
        c.says(19, "NONE; FULL. GONE; KIND; RESERVED; EXPIRED; RECALLED");
        int[] sets = {0, IS_GONE, IS_RESERVED, IS_EXPIRED, IS_RECALLED};
        for (int flaws : sets) {
            BloodBank x = withPatients();
            int bag = flawed(x, Make.WHOLE, flaws);
            int cells = Make.bag(x, Make.CELLS, LATER_DONOR);
            Make.bags(x, Make.CELLS, 198);
            refused(x, 5, FULL, x.part(bag));
            refused(x, 5, FULL, x.part(cells));
            refused(x, 5, NONE, x.part(198));
        }
    }

    private static void poolingRefused() {
        c.says(22, "BAD; FULL. EMPTY");
        BloodBank x = withPatients();
        refused(x, 6, BAD, x.pool(4));
        Make.bags(x, Make.PLASMA, 200);
        refused(x, 6, BAD, x.pool(1));
        refused(x, 6, FULL, x.pool(2));
        x.tray(0);
        x.tray(1);
        refused(x, 6, FULL, x.pool(3));
        x.spoil(0);
        refused(x, 6, FULL, x.pool(2));
        refused(x, 6, BAD, x.pool(5));
        c.says(22, "EMPTY .. then by the first BAG");
        BloodBank y = withPatients();
        int bag = Make.bag(y, Make.WHOLE);
        y.tray(bag);
        tried(y, 6, EMPTY, y.pool(2));
        y.spoil(bag);
        c.due(EMPTY, y.pool(2));
        c.due(BAD, y.pool(4));
    }

    /** One bag has flaws, the other has none; the one with flaws is the first or the second on the tray. */
    private static void poolingOne() {
        c.says(22, "GONE; KIND; AS_IS; RESERVED; EXPIRED; RECALLED");
        for (int flaws = 0; flaws <= ALL_FLAWS; flaws++) {
            for (int how = 0; how < 8 && canBe(flaws); how++) {
                boolean otherKind = has(how, 1), otherBank = has(how, 2), isFirst = has(how, 4);
                BloodBank x = withPatients();
                int bag = flawed(x, otherKind ? Make.CELLS : Make.PLATELETS, flaws & ~IS_GONE);
                if (otherBank) {
                    x.send(bag, 1);
                }
                int sound = x.take(0, Make.PLATELETS, LATER_DONOR, 1, 0, 100);
                x.tray(isFirst ? bag : sound);
                x.tray(isFirst ? sound : bag);
                if (has(flaws, IS_GONE)) {
                    x.spoil(bag);
                }
                // a first bag is of its own bank: then the second one is of another
                int due = first(heldBack(flaws, otherBank && isFirst ? AS_IS : x.count(1)),
                    has(flaws, IS_GONE), GONE, otherKind, KIND, otherBank && !isFirst, AS_IS);
                tried(x, 6, due, x.pool(Make.PLATELETS));
                c.due(due < 0 ? 2 : 0, x.count(4));
            }
        }
    }

    /** Both bags have one flaw each: that of the first comes, whichever it is. */
    private static void poolingTwo() {
        c.says(22, "then by the first BAG of which one is so");
        int[] findings = {GONE, KIND, AS_IS, RESERVED, EXPIRED, RECALLED};
        for (int one : findings) {
            for (int other : findings) {
                if (one != AS_IS) {
                    BloodBank x = withPatients();
                    int[] bags = twoWith(x, one, other);
                    x.tray(bags[0]);
                    x.tray(bags[1]);
                    makeGone(x, bags, one, other);
                    tried(x, 6, one, x.pool(Make.PLATELETS));
                    c.due(2, x.untray());
                }
            }
        }
    }

    /** What expires is made first, so that the other one need not expire with it. */
    private static int[] twoWith(BloodBank x, int one, int other) {
        int[] bags = new int[2];
        bags[0] = one == EXPIRED ? Make.bag(x, Make.PLATELETS, 4) : -1;
        bags[1] = other == EXPIRED ? Make.bag(x, Make.PLATELETS, 5) : -1;
        if (one == EXPIRED || other == EXPIRED) {
            Make.pass(x, 40);
        }
        for (int i = 0; i < 2; i++) {
            int finding = i == 0 ? one : other;
            if (finding != EXPIRED) {
                bags[i] = Make.bag(x, finding == KIND ? Make.PLASMA : Make.PLATELETS, 4 + i);
            }
            if (finding == AS_IS) {
                x.send(bags[i], 1);
            }
            if (finding == RESERVED) {
                x.reserve(bags[i], FITTING);
            }
            if (finding == RECALLED) {
                x.recall(4 + i);
            }
        }
        return bags;
    }

    private static void makeGone(BloodBank x, int[] bags, int one, int other) {
        if (one == GONE) {
            x.spoil(bags[0]);
        }
        if (other == GONE) {
            x.spoil(bags[1]);
        }
    }

    private static void freezing() {
        c.says(23, "GONE; KIND; AS_IS; RESERVED; EXPIRED; RECALLED");
        for (int flaws = 0; flaws <= ALL_FLAWS; flaws++) {
            for (int kind = 0; kind < 5 && canBe(flaws); kind++) {
                if (kind == Make.FROZEN && has(flaws, IS_EXPIRED)) {
                    continue;
                }
                BloodBank x = withPatients();
                int bag = flawed(x, kind, flaws);
                int tries = x.tries(7);
                int due = first(heldBack(flaws, bag + 1), has(flaws, IS_GONE), GONE,
                    kind != Make.PLASMA && kind != Make.FROZEN, KIND, kind == Make.FROZEN, AS_IS);
                c.due(due, x.freeze(bag));
                c.due(Math.min(due, 0), x.status());
                c.due(tries + 1, x.tries(7));
                c.due(NONE, x.freeze(200));
            }
        }
    }

    /** An expired FROZEN is beyond the 512 calls of an object, so EXPIRED stands behind KIND alone here. */
    private static void thawing() {
        c.says(24, "GONE; KIND; RESERVED; EXPIRED; RECALLED");
        for (int flaws = 0; flaws <= ALL_FLAWS; flaws++) {
            for (int kind = 0; kind < 5 && canBe(flaws); kind++) {
                if (kind == Make.FROZEN && has(flaws, IS_EXPIRED)) {
                    continue;
                }
                BloodBank x = withPatients();
                int bag = flawed(x, kind, flaws);
                int due = first(heldBack(flaws, bag + 1), has(flaws, IS_GONE), GONE, kind != Make.FROZEN, KIND);
                tried(x, 8, due, x.thaw(bag));
                c.due(NONE, x.thaw(200));
            }
        }
    }

    private static void makingFull() {
        int[] sets = {0, IS_GONE, IS_RESERVED, IS_EXPIRED, IS_RECALLED};
        for (int flaws : sets) {
            BloodBank x = withPatients();
            int bag = flawed(x, Make.PLASMA, flaws);
            int whole = Make.bag(x, Make.WHOLE);
            Make.bags(x, Make.CELLS, 200);
            c.says(23, "NONE; FULL. GONE; KIND; AS_IS; RESERVED; EXPIRED; RECALLED");
            refused(x, 7, FULL, x.freeze(bag));
            refused(x, 7, FULL, x.freeze(whole));
            refused(x, 7, NONE, x.freeze(200));
            c.says(24, "NONE; FULL. GONE; KIND; RESERVED; EXPIRED; RECALLED");
            refused(x, 8, FULL, x.thaw(bag));
            refused(x, 8, FULL, x.thaw(whole));
            refused(x, 8, NONE, x.thaw(-1));
        }
        c.says(23, "FULL. .. AS_IS: it is a FROZEN");
        BloodBank x = withPatients();
        int frozen = Make.bag(x, Make.FROZEN);
        Make.bags(x, Make.CELLS, 200);
        c.due(FULL, x.freeze(frozen));
        c.due(FULL, x.thaw(frozen));
        x.spoil(frozen);
        c.due(FULL, x.thaw(frozen));
    }

    private static void reserving() {
        c.says(25, "NONE: BAG, PATIENT. GONE; RESERVED; UNFIT");
        for (int flaws = 0; flaws <= ALL_FLAWS; flaws++) {
            for (int patient = FITTING; patient <= UNFITTING && canBe(flaws); patient++) {
                BloodBank x = withPatients();
                int bag = flawed(x, Make.PLATELETS, flaws);
                int tries = x.tries(9);
                int due = first(1, has(flaws, IS_GONE), GONE, has(flaws, IS_RESERVED), RESERVED,
                    patient == UNFITTING, UNFIT);
                c.due(due, x.reserve(bag, patient));
                c.due(Math.min(due, 0), x.status());
                c.due(tries + 1, x.tries(9));
                c.due(NONE, x.reserve(bag, NOBODY));
                c.due(NONE, x.reserve(bag + 1, patient));
                c.due(tries + 1, x.tries(9));
            }
        }
    }

    private static void giving() {
        c.says(27, "NONE: BAG, PATIENT. GONE; UNTESTED; UNFREE; WARM; EXPIRED; RECALLED; RESERVED; UNFIT");
        for (int flaws = 0; flaws <= ALL_FLAWS; flaws++) {
            for (int patient = FITTING; patient <= ANOTHER && canBe(flaws); patient++) {
                BloodBank x = withPatients();
                int bag = flawed(x, Make.PLATELETS, flaws);
                int due = first(1, has(flaws, IS_GONE), GONE, has(flaws, IS_UNTESTED | IS_POOR), UNTESTED,
                    !has(flaws, IS_FREE), UNFREE, has(flaws, IS_WARM), WARM, has(flaws, IS_EXPIRED), EXPIRED,
                    has(flaws, IS_RECALLED), RECALLED, has(flaws, IS_RESERVED) && patient != ANOTHER, RESERVED,
                    patient == UNFITTING, UNFIT);
                c.due(due == 1 ? bag : EMPTY, x.match(patient, Make.PLATELETS));
                refused(x, 10, NONE, x.give(bag, NOBODY));
                refused(x, 10, NONE, x.give(bag + 1, patient));
                tried(x, 10, due, x.give(bag, patient));
            }
        }
    }

    private static void homeAndSpoil() {
        for (int flaws = 0; flaws <= ALL_FLAWS; flaws++) {
            if (canBe(flaws)) {
                BloodBank x = withPatients();
                int bag = flawed(x, Make.PLATELETS, flaws);
                c.says(28, "NONE. AS_IS");
                refused(x, 11, NONE, x.home(bag + 1));
                tried(x, 11, AS_IS, x.home(bag));
                c.says(29, "NONE. GONE");
                c.due(has(flaws, IS_GONE) ? GONE : 1, x.spoil(bag));
                c.due(NONE, x.spoil(bag + 1));
            }
        }
    }

    private static void sharing() {
        c.says(30, "NONE; BAD. GONE; NOUGHT");
        BloodBank x = new BloodBank();
        refused(x, 13, NONE, x.share(0, -1));
        refused(x, 13, NONE, x.share(0, 0));
        Make.bag(x, Make.WHOLE);
        refused(x, 13, BAD, x.share(0, -1));
        tried(x, 13, NOUGHT, x.share(0, 0));
        x.spoil(0);
        c.due(BAD, x.share(0, -1));
        c.due(GONE, x.share(0, 0));
        c.due(GONE, x.share(0, 1));
    }

    private static void questions() {
        BloodBank x = new BloodBank();
        x.rack(0, Make.ALL);
        c.says(35, "NONE; BAD");
        c.due(NONE, x.told(0, 17));
        c.says(36, "NONE; BAD");
        c.due(NONE, x.bodies(0, 7));
        c.says(39, "NONE; NO_ROW; PLACE; EMPTY");
        c.due(NONE, x.at(1, -1));
        c.due(NO_ROW, x.at(0, -1));
        x.row(0, 1);
        c.due(PLACE, x.at(0, 1));
        c.due(EMPTY, x.at(0, 0));
        c.says(42, "NONE; BAD; EMPTY");
        c.due(NONE, x.match(0, 6));
        x.patient(0, 0);
        c.due(BAD, x.match(0, 6));
        c.due(EMPTY, x.match(0, 5));
        c.says(43, "NONE; BAD");
        c.due(NONE, x.stock(4, 7));
        c.due(BAD, x.stock(3, 7));
    }
}
