import java.math.BigInteger;

/** Promises 33 to 49 at their edges; and the numbers of bags, racks, patients and banks in every call that has one. */
public final class QuestionEdgesTest {
    private static final int NONE = BloodBank.NONE, BAD = BloodBank.BAD;
    private static final int NO_ROW = BloodBank.NO_ROW, PLACE = BloodBank.PLACE, EMPTY = BloodBank.EMPTY;
    private static final Check c = new Check("QuestionEdgesTest");

    private interface Call {
        long ask(BloodBank x, int number);
    }

    public static void main(String[] args) {
        bagNumbers();
        rackNumbers();
        patientNumbers();
        bankNumbers();
        lastNumbers();
        states();
        toldWhat();
        toldNothing();
        bodiesWhat();
        cameEnds();
        fromEnds();
        atAndPlaces();
        matchKinds();
        matchFirstToExpire();
        stockKinds();
        stockStates();
        triesActs();
        lockedNever();
        statusFirst();
        countWhat();
        digestSmall();
        digestRunsOver();
        cleared();
        clearedFull();
        clearedNumbers();
        c.end();
    }

    /** NONE for -1, the number behind the last, and far ones; never for the last one. */
    private static void due(int promise, BloodBankMaker scene, int last, Call call) {
        c.says(promise, "NONE there is no such BANK, RACK, BAG, PATIENT");
        for (int wrong : new int[] {-1, last + 1, Make.DEEP, Make.FAR, -9}) {
            c.due(NONE, call.ask(scene.make(), wrong));
        }
        long answer = call.ask(scene.make(), last);
        c.due(answer != NONE, "the last number is one");
        c.due(call.ask(scene.make(), 0) != NONE, "0 is one");
    }

    private interface BloodBankMaker {
        BloodBank make();
    }

    /** Bags 0 .. 2 (thawed of frozen of plasma), racks 0 and 1, patients 0 and 1, one of each that is free. */
    private static BloodBank scene() {
        BloodBank x = new BloodBank();
        Make.rack(x, 2);
        Make.rack(x, 2);
        x.patient(1, 0);
        x.patient(1, 0);
        Make.bag(x, Make.PLASMA);
        x.freeze(0);
        x.thaw(1);
        return x;
    }

    private static void bagNumbers() {
        BloodBankMaker s = QuestionEdgesTest::scene;
        due(13, s, 2, (x, bag) -> x.send(bag, 1));
        due(14, s, 2, (x, bag) -> x.lay(bag, 0, 0));
        due(17, s, 2, (x, bag) -> x.test(bag, true));
        due(18, s, 2, (x, bag) -> x.free(bag));
        due(19, s, 2, (x, bag) -> x.part(bag));
        due(20, s, 2, (x, bag) -> x.tray(bag));
        due(23, s, 2, (x, bag) -> x.freeze(bag));
        due(24, s, 2, (x, bag) -> x.thaw(bag));
        due(25, s, 2, (x, bag) -> x.reserve(bag, 0));
        due(26, s, 2, (x, bag) -> x.release(bag));
        due(27, s, 2, (x, bag) -> x.give(bag, 0));
        due(28, s, 2, (x, bag) -> x.home(bag));
        due(29, s, 2, (x, bag) -> x.spoil(bag));
        due(30, s, 2, (x, bag) -> x.share(bag, 1));
        due(33, s, 2, (x, bag) -> x.kindOf(bag));
        due(34, s, 2, (x, bag) -> x.state(bag));
        due(35, s, 2, (x, bag) -> x.told(bag, 0));
        due(36, s, 2, (x, bag) -> x.bodies(bag, 0));
        due(41, s, 2, (x, bag) -> x.fits(bag, 0));
    }

    private static void rackNumbers() {
        BloodBankMaker s = QuestionEdgesTest::scene;
        due(3, s, 1, (x, rack) -> x.row(rack, 1));
        due(4, s, 1, (x, rack) -> x.unrow(rack));
        due(5, s, 1, (x, rack) -> x.probe(rack, true));
        due(6, s, 1, (x, rack) -> x.cold(rack, 1));
        due(7, s, 1, (x, rack) -> x.fails(rack));
        due(9, s, 1, (x, rack) -> x.readings(rack));
        due(14, s, 1, (x, rack) -> x.lay(2, rack, 0));
        due(15, s, 1, (x, rack) -> x.lift(rack, 0, Make.ALL));
        due(16, s, 1, (x, rack) -> x.slide(rack, 0, 1, 1));
        due(39, s, 1, (x, rack) -> x.at(rack, 0));
        due(40, s, 1, (x, rack) -> x.places(rack));
    }

    private static void patientNumbers() {
        BloodBankMaker s = QuestionEdgesTest::scene;
        due(25, s, 1, (x, patient) -> x.reserve(2, patient));
        due(27, s, 1, (x, patient) -> x.give(2, patient));
        due(41, s, 1, (x, patient) -> x.fits(2, patient));
        due(42, s, 1, (x, patient) -> x.match(patient, 0));
    }

    private static void bankNumbers() {
        BloodBankMaker s = QuestionEdgesTest::scene;
        due(2, s, 3, (x, bank) -> x.rack(bank, 0));
        due(12, s, 3, (x, bank) -> x.take(bank, 0, 0, 0, 0, 1));
        due(13, s, 3, (x, bank) -> x.send(2, bank));
        due(43, s, 3, (x, bank) -> x.stock(bank, 0));
    }

    /** The last that there can be: bag 199, rack 11, patient 39. */
    private static void lastNumbers() {
        c.saysInSection(1, "RACKS (12) and BAGS (200, over all BANKS) are numbered from 0 on; PATIENTS (40) likewise");
        BloodBank x = new BloodBank();
        for (int i = 0; i < 12; i++) {
            x.rack(0, Make.ALL);
        }
        for (int i = 0; i < 40; i++) {
            x.patient(1, 0);
        }
        x.row(11, 20);
        Make.bags(x, Make.CELLS, 200);
        c.due(1, x.lay(199, 11, 19));
        c.due(199, x.at(11, 19));
        c.due(11, x.told(199, 14));
        c.due(1, x.slide(11, 19, 0, 1));
        c.due(1, x.test(199, true));
        c.due(1, x.free(199));
        c.due(199, x.match(39, Make.CELLS));
        c.due(1, x.reserve(199, 39));
        c.due(39, x.told(199, 4));
        c.due(1, x.give(199, 39));
        c.due(199, x.recall(1));
        c.due(199, x.listed(0));
        c.due(NONE, x.lay(200, 11, 0));
        c.due(NONE, x.lay(0, 12, 0));
        c.due(NONE, x.give(0, 40));
        c.due(199, x.stock(0, Make.ALL));
    }

    private static void states() {
        c.says(34, "what it IS: 0 .. 5");
        for (int state = 0; state < 6; state++) {
            BloodBank x = new BloodBank();
            int bag = Make.inState(x, state);
            c.due(state, x.state(bag));
            c.says(33, "its KIND (GONE or not)");
            c.due(state == Make.POOLED ? 3 : 0, x.kindOf(bag));
        }
        for (int kind = 0; kind < 6; kind++) {
            BloodBank x = new BloodBank();
            c.due(kind, x.kindOf(Make.bag(x, kind)));
        }
    }

    private static void toldWhat() {
        c.says(35, "BAD (0 .. 16)");
        BloodBank x = scene();
        for (int what : new int[] {-1, 17, Make.DEEP, Make.FAR}) {
            c.due(BAD, x.told(2, what));
        }
        c.due(0, x.told(2, 0));
        c.due(-9, x.told(2, 16));
        c.says(35, "NONE; BAD");
        c.due(NONE, x.told(3, 17));
        c.due(NONE, x.told(3, -1));
    }

    private static void toldNothing() {
        c.says(35, "-9: none (4; 14, 15 where it lies in no RACK; 16 where it is not AWAY)");
        for (int state = 0; state < 6; state++) {
            BloodBank x = new BloodBank();
            x.minute();
            x.minute();
            int bag = Make.inState(x, state);
            c.due(-9, x.told(bag, 4));
            c.due(state == Make.IN_RACK ? 0 : -9, x.told(bag, 14));
            c.due(state == Make.IN_RACK ? 0 : -9, x.told(bag, 15));
            c.due(state == Make.AWAY ? 2 : -9, x.told(bag, 16));
        }
        c.says(35, "16 the MINUTE from which it is AWAY (0, too)");
        BloodBank x = new BloodBank();
        c.due(0, x.told(Make.inState(x, Make.AWAY), 16));
        c.says(35, "9 the LOSS when it was PARTED (by part(), freeze(); 0 else)");
        BloodBank y = scene();
        c.due(2, y.told(0, 9));
        c.due(0, y.told(1, 9));
        c.due(0, y.told(2, 9));
        c.says(35, "8 GRAMS (of one that was PARTED, POOLED, SPOILT, AWAY, too)");
        for (int state = 0; state < 6; state++) {
            BloodBank z = new BloodBank();
            int bag = Make.inState(z, state);
            c.due(100, z.told(bag, 8));
            c.due(state == Make.PARTED ? 3 : 0, z.told(bag, 9));
        }
    }

    private static void bodiesWhat() {
        int[][] due = {{60, 3, 120, 5, 1, 2, 32}, {60, 3, 160, 5, 4, 8, 30}, {80, 5, 90, 7, 12, 24, 30},
            {240, 8, 40, 10, 1, 9, 30}, {-180, 2, 600, 2, 123, 246, 30}, {80, 4, 30, 1, 5, 10, 45}};
        String[] sentences = {"MARK", "SPAN, minutes: 3, 3, 5, 8, 2, 4", "LIFE, minutes: 120, 160, 90, 40, 600, 30",
            "GRACE: 2 more than its SPAN; of FROZEN half of that, of a POOL 1", "CODE", "TWICE", "RANK"};
        for (int kind = 0; kind < 6; kind++) {
            BloodBank x = new BloodBank();
            int bag = Make.bag(x, kind);
            for (int what = 0; what < 7; what++) {
                c.saysInSection(2, sentences[what]);
                c.due(due[kind][what], x.bodies(bag, what));
            }
            c.says(36, "BAD (0 .. 6)");
            for (int what : new int[] {-1, 7, Make.DEEP, Make.FAR}) {
                c.due(BAD, x.bodies(bag, what));
            }
            c.says(36, "NONE; BAD");
            c.due(NONE, x.bodies(bag + 1, 7));
        }
    }

    private static void cameEnds() {
        c.says(37, "the k-th BAG (from 0, by numbers) that came of it. NONE: also none such");
        BloodBank x = new BloodBank();
        Make.bags(x, Make.WHOLE, 2);
        c.due(NONE, x.came(0, 0));
        x.part(1);
        x.part(0);
        for (int k = 0; k < 3; k++) {
            c.due(2 + k, x.came(1, k));
            c.due(5 + k, x.came(0, k));
        }
        for (int k : new int[] {-1, 3, Make.DEEP, Make.FAR}) {
            c.due(NONE, x.came(0, k));
        }
        c.due(NONE, x.came(-1, 0));
        c.due(NONE, x.came(8, 0));
        c.says(37, "that came of it (not what came of that)");
        c.due(8, x.freeze(3));
        c.due(NONE, x.came(1, 3));
        c.due(8, x.came(3, 0));
        c.due(NONE, x.came(3, 1));
        c.due(9, Make.pool(x, Make.PLASMA, 8, 6));
        c.due(9, x.came(6, 0));
        c.due(9, x.came(8, 0));
        c.due(NONE, x.came(8, 1));
    }

    private static void fromEnds() {
        c.says(38, "the k-th BAG (from 0) that it came from: of a POOL in the order of the TRAY. NONE: also none such");
        BloodBank x = new BloodBank();
        Make.bags(x, Make.PLATELETS, 6);
        int[] order = {3, 0, 5, 1, 4, 2};
        c.due(6, Make.pool(x, Make.PLATELETS, order));
        for (int k = 0; k < 6; k++) {
            c.due(order[k], x.from(6, k));
        }
        for (int k : new int[] {-1, 6, 7, Make.DEEP, Make.FAR}) {
            c.due(NONE, x.from(6, k));
        }
        c.due(NONE, x.from(0, 0));
        c.due(NONE, x.from(7, 0));
        c.due(NONE, x.from(-1, 0));
        BloodBank y = scene();
        c.due(0, y.from(1, 0));
        c.due(1, y.from(2, 0));
        c.due(NONE, y.from(2, 1));
        c.due(NONE, y.from(0, 0));
    }

    private static void atAndPlaces() {
        for (int size : new int[] {0, 1, 20}) {
            BloodBank x = new BloodBank();
            x.rack(0, Make.ALL);
            c.says(40, "NO_ROW");
            c.due(NO_ROW, x.places(0));
            c.says(39, "NO_ROW");
            c.due(NO_ROW, x.at(0, 0));
            x.row(0, size);
            c.says(40, "how many PLACES the ROW of a RACK has");
            c.due(size, x.places(0));
            c.says(39, "PLACE; EMPTY");
            for (int place : new int[] {-1, size, Make.DEEP, Make.FAR}) {
                c.due(PLACE, x.at(0, place));
            }
            if (size > 0) {
                c.due(EMPTY, x.at(0, 0));
                c.due(EMPTY, x.at(0, size - 1));
                Make.bag(x, Make.WHOLE);
                c.says(39, "the BAG in a PLACE");
                x.lay(0, 0, size - 1);
                c.due(0, x.at(0, size - 1));
            }
        }
    }

    private static void matchKinds() {
        BloodBank x = new BloodBank();
        x.patient(1, 0);
        c.says(42, "BAD (0 .. 5)");
        for (int kind : new int[] {-1, 6, Make.DEEP, Make.FAR}) {
            c.due(BAD, x.match(0, kind));
        }
        c.says(42, "EMPTY: there is none");
        for (int kind = 0; kind < 6; kind++) {
            c.due(EMPTY, x.match(0, kind));
        }
        c.says(42, "of the BAGS of a KIND (0 .. 5; a FROZEN is a PLASMA, too)");
        // for each kind of a lone bag, the kinds asked for that find it, as bits 0 .. 5
        int[] found = {0x01, 0x02, 0x04, 0x08, 0x14, 0x20};
        for (int kind = 0; kind < 6; kind++) {
            BloodBank y = new BloodBank();
            y.patient(1, 0);
            int bag = Make.ready(y, kind);
            for (int asked = 0; asked < 6; asked++) {
                c.due((found[kind] >> asked & 1) == 1 ? bag : EMPTY, y.match(0, asked));
            }
        }
    }

    private static void matchFirstToExpire() {
        c.says(42, "the one that expires first, of several the least number");
        BloodBank x = new BloodBank();
        x.patient(1, 0);
        int frozen = Make.ready(x, Make.FROZEN);
        int one = Make.ready(x, Make.PLASMA);
        int two = Make.ready(x, Make.PLASMA);
        x.minute();
        int later = Make.ready(x, Make.PLASMA);
        c.due(one, x.match(0, Make.PLASMA));
        x.spoil(one);
        c.due(two, x.match(0, Make.PLASMA));
        x.spoil(two);
        c.due(later, x.match(0, Make.PLASMA));
        x.spoil(later);
        c.due(frozen, x.match(0, Make.PLASMA));
        // thawed a minute ahead of its neighbour's taking, it expires a minute ahead, too
        int thawed = x.thaw(frozen);
        x.test(thawed, true);
        x.free(thawed);
        x.minute();
        int last = Make.ready(x, Make.PLASMA);
        c.due(thawed, x.match(0, Make.PLASMA));
        x.give(thawed, 0);
        c.due(last, x.match(0, Make.PLASMA));
    }

    private static void stockKinds() {
        BloodBank x = new BloodBank();
        c.says(43, "BAD (6: all)");
        for (int kind : new int[] {-1, 7, Make.DEEP, Make.FAR}) {
            c.due(BAD, x.stock(0, kind));
        }
        c.says(43, "how many BAGS of a KIND (6: all; a FROZEN is a PLASMA, too)");
        int[] counted = {0x41, 0x42, 0x44, 0x48, 0x54, 0x60};
        for (int kind = 0; kind < 6; kind++) {
            BloodBank y = new BloodBank();
            Make.bag(y, kind);
            for (int asked = 0; asked <= 6; asked++) {
                c.due(counted[kind] >> asked & 1, y.stock(0, asked));
                c.due(0, y.stock(3, asked));
            }
        }
        BloodBank z = new BloodBank();
        z.take(3, 0, 1, 1, 0, 1);
        c.due(1, z.stock(3, 0));
        c.due(0, z.stock(2, 0));
    }

    private static void stockStates() {
        c.says(43, "are on the BENCH or in RACKS of a BANK");
        for (int state = 0; state < 6; state++) {
            BloodBank x = new BloodBank();
            int bag = Make.inState(x, state);
            c.due(state < 2 ? 1 : 0, x.stock(0, x.kindOf(bag)));
        }
    }

    private static void triesActs() {
        c.says(44, "BAD (0 .. 13)");
        BloodBank x = new BloodBank();
        for (int act : new int[] {-1, 14, Make.DEEP, Make.FAR}) {
            c.due(BAD, x.tries(act));
        }
        c.due(0, x.tries(0));
        c.due(0, x.tries(13));
        c.says(44, "how many TRIES of an ACT there were");
        for (int act = 0; act < 14; act++) {
            BloodBank y = scene();
            int[] before = tries(y);
            act(y, act);
            act(y, act);
            int[] behind = tries(y);
            for (int i = 0; i < 14; i++) {
                c.due(before[i] + (i == act ? 2 : 0), behind[i]);
            }
        }
    }

    private static int[] tries(BloodBank x) {
        int[] tries = new int[14];
        for (int act = 0; act < 14; act++) {
            tries[act] = x.tries(act);
        }
        return tries;
    }

    private static int act(BloodBank x, int act) {
        switch (act) {
            case 0: return x.lay(2, 0, 0);
            case 1: return x.lift(0, 0, Make.ALL);
            case 2: return x.slide(0, 0, 1, 1);
            case 3: return x.test(2, true);
            case 4: return x.free(2);
            case 5: return x.part(2);
            case 6: return x.pool(2);
            case 7: return x.freeze(2);
            case 8: return x.thaw(2);
            case 9: return x.reserve(2, 0);
            case 10: return x.give(2, 0);
            case 11: return x.home(2);
            case 12: return x.spoil(2);
            default: return x.share(2, 1);
        }
    }

    /** Each act twice, done and found, with the bag in a rack and out of it: nothing stays locked. */
    private static void lockedNever() {
        c.says(45, "it is unlocked behind it, whatever was found");
        c.due(0, new BloodBank().locked());
        for (int act = 0; act < 14; act++) {
            for (int lying = 0; lying < 2; lying++) {
                BloodBank x = scene();
                if (lying == 1) {
                    x.lay(2, 1, 1);
                }
                for (int again = 0; again < 2; again++) {
                    act(x, act);
                    c.due(0, x.locked());
                }
            }
        }
    }

    private static void statusFirst() {
        c.says(46, "0 if it was done, or there was none");
        BloodBank x = new BloodBank();
        c.due(0, x.status());
        c.due(NONE, x.test(0, true));
        c.due(NONE, x.status());
        Make.bag(x, Make.WHOLE);
        c.due(NONE, x.status());
        c.due(1, x.test(0, true));
        c.due(0, x.status());
        c.due(BloodBank.AS_IS, x.test(0, true));
        c.due(BloodBank.AS_IS, x.status());
        c.due(BAD, x.share(0, -1));
        c.due(BAD, x.status());
    }

    private static void countWhat() {
        c.says(47, "BAD (0 .. 4)");
        BloodBank x = scene();
        for (int what : new int[] {-1, 5, Make.DEEP, Make.FAR}) {
            c.due(BAD, x.count(what));
        }
        c.says(47, "0 RACKS, 1 BAGS, 2 PATIENTS, 3 the MINUTE, 4 BAGS on the TRAY");
        Make.pass(x, 5);
        x.tray(2);
        int[] due = {2, 3, 2, 5, 1};
        for (int what = 0; what < 5; what++) {
            c.due(due[what], x.count(what));
        }
    }

    private static void digestSmall() {
        c.says(48, "h, which is 7 (no BAG)");
        BloodBank x = new BloodBank();
        x.rack(0, 0);
        x.patient(0, 0);
        c.due(7, x.digest());
        c.says(48, "for each what 0 .. 16 becomes 31 h and told() of that");
        x.take(0, 0, 0, 0, 0, 1);
        c.due(digestByWords(x).longValue(), x.digest());
    }

    private static BigInteger digestByWords(BloodBank x) {
        BigInteger h = BigInteger.valueOf(7);
        for (int bag = 0; bag < x.count(1); bag++) {
            for (int what = 0; what <= 16; what++) {
                h = h.multiply(BigInteger.valueOf(31)).add(BigInteger.valueOf(x.told(bag, what)));
            }
        }
        return h;
    }

    private static void digestRunsOver() {
        c.says(48, "running over");
        BloodBank x = new BloodBank();
        boolean wasBelow = false;
        for (int bags = 1; bags <= 5; bags++) {
            x.take(bags % 4, bags % 4, 99, 7, 65535, 2000);
            BigInteger h = digestByWords(x);
            c.due(h.bitLength() > 63, "more than 64 bits hold");
            c.due(h.longValue(), x.digest());
            wasBelow |= h.longValue() < 0;
        }
        c.due(wasBelow, "below 0 once");
    }

    private static void cleared() {
        BloodBank x = scene();
        x.reserve(2, 0);
        x.tray(2);
        x.minute();
        for (int act = 0; act < 14; act++) {
            act(x, act);
        }
        x.give(Make.ready(x, Make.PLASMA), 0);
        x.recall(1);
        c.due(x.listed(0) != NONE, "something is listed");
        x.share(2, -1);
        c.due(BAD, x.status());
        int bags = x.count(1);
        c.says(49, "how many BAGS there were");
        c.due(bags, x.clear());
        c.says(49, "all is as at first (TRIES, status(), the TRAY, LISTED, too)");
        for (int act = 0; act < 14; act++) {
            c.due(0, x.tries(act));
        }
        c.due(0, x.status());
        c.due(0, x.locked());
        c.due(NONE, x.listed(0));
        c.due(0, x.untray());
        for (int what = 0; what < 5; what++) {
            c.due(0, x.count(what));
        }
        c.due(7, x.digest());
        c.due(NONE, x.places(0));
        c.due(NONE, x.kindOf(0));
        c.says(49, "how many BAGS there were (none)");
        c.due(0, x.clear());
        c.due(0, new BloodBank().clear());
    }

    private static void clearedFull() {
        c.says(49, "how many BAGS there were (all 200)");
        BloodBank x = new BloodBank();
        for (int i = 0; i < 12; i++) {
            Make.rack(x, 1);
        }
        for (int i = 0; i < 40; i++) {
            x.patient(0, 0);
        }
        Make.bags(x, Make.WHOLE, 200);
        x.lay(199, 11, 0);
        c.due(200, x.clear());
        c.says(49, "all is as at first: there is room again");
        for (int i = 0; i < 12; i++) {
            c.due(i, x.rack(0, 6));
            c.due(NO_ROW, x.places(i));
        }
        c.due(BloodBank.FULL, x.rack(0, 6));
        for (int i = 0; i < 40; i++) {
            c.due(i, x.patient(1, 0));
        }
        c.due(BloodBank.FULL, x.patient(0, 0));
        c.due(0, Make.bag(x, Make.CELLS));
        c.due(1, x.fits(0, 39));
        c.due(1, x.row(11, 1));
        c.due(EMPTY, x.at(11, 0));
    }

    /** Nothing that bags, racks and patients were before clear() is left in those that come. */
    private static void clearedNumbers() {
        c.says(49, "all is as at first: what comes is new");
        BloodBank x = new BloodBank();
        Make.rack(x, 3);
        x.probe(0, true);
        x.cold(0, 5);
        x.patient(0, 65535);
        x.patient(1, 0);
        int bag = Make.ready(x, Make.PLASMA);
        Make.warm(x, bag);
        x.lay(bag, 0, 2);
        x.reserve(bag, 1);
        x.recall(1);
        int away = Make.ready(x, Make.POOL);
        x.give(away, 1);
        int frozen = Make.bag(x, Make.FROZEN);
        int rack = Make.layInNewRack(x, frozen);
        x.probe(rack, true);
        x.cold(rack, 0);
        x.minute();
        c.due(1, x.told(frozen, 12));
        c.due(1, x.told(bag, 11));
        x.clear();
        x.rack(1, 0);
        c.due(NO_ROW, x.places(0));
        c.due(NO_ROW, x.readings(0));
        x.probe(0, true);
        c.due(0, x.readings(0));
        x.row(0, 3);
        c.due(EMPTY, x.at(0, 2));
        x.patient(7, 0);
        for (int i = 0; i <= frozen; i++) {
            c.due(i, x.take(1, 0, 2, 3, 4, 5));
            int[] told = {0, 0, 0, 0, -9, 2, 3, 4, 5, 0, 120, 0, 0, 1, -9, -9, -9};
            for (int what = 0; what <= 16; what++) {
                c.due(told[what], x.told(i, what));
            }
            c.due(0, x.kindOf(i));
            c.due(0, x.state(i));
            c.due(NONE, x.from(i, 0));
            c.due(NONE, x.from(i, 1));
            c.due(NONE, x.came(i, 0));
        }
        c.due(1, x.fits(0, 0));
        c.due(1, x.minute());
    }
}
