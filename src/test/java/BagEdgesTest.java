/** Promises 11 to 13, 20, 21, 26, 31, 32 and section 2 at their edges: patients, bags, the tray, recalls. */
public final class BagEdgesTest {
    private static final int NONE = BloodBank.NONE, BAD = BloodBank.BAD, FULL = BloodBank.FULL;
    private static final int GONE = BloodBank.GONE, AS_IS = BloodBank.AS_IS;
    private static final int MOST = 65535;
    private static final Check c = new Check("BagEdgesTest");

    public static void main(String[] args) {
        patientNumbers();
        patientsFull();
        takeNumbers();
        takenAsTold();
        bagsFull();
        lives();
        neverAnew();
        sent();
        sentGone();
        trayEnds();
        trayFindings();
        untrayed();
        released();
        recallNumbers();
        recallCounts();
        recallDepth();
        recallOfPools();
        listedEnds();
        listedAnew();
        signsAndAntibodies();
        groups();
        poolFits();
        poolFitsBySources();
        shares();
        c.end();
    }

    private static void patientNumbers() {
        BloodBank x = new BloodBank();
        c.says(11, "BAD: group is not 0 .. 7");
        for (int group : new int[] {-1, 8, Make.DEEP, Make.FAR}) {
            c.due(BAD, x.patient(group, 0));
        }
        c.due(0, x.patient(0, 0));
        c.due(1, x.patient(7, 0));
        c.says(11, "BAD: .. antibodies not 0 .. 65535");
        for (int antibodies : new int[] {-1, 65536, Make.DEEP, Make.FAR}) {
            c.due(BAD, x.patient(0, antibodies));
        }
        c.due(2, x.patient(0, 0));
        c.due(3, x.patient(0, 65535));
        c.due(4, x.count(2));
    }

    private static void patientsFull() {
        BloodBank x = new BloodBank();
        c.says(11, "FULL (PATIENTS: 40, numbered from 0 on)");
        for (int i = 0; i < 40; i++) {
            c.due(i, x.patient(1, 0));
        }
        c.due(FULL, x.patient(1, 0));
        c.due(40, x.count(2));
        c.says(11, "BAD; FULL: in this order");
        c.due(BAD, x.patient(8, 0));
        c.due(BAD, x.patient(0, 65536));
        c.saysInSection(4, "NONE there is no such .. PATIENT");
        Make.bag(x, Make.CELLS);
        c.due(1, x.fits(0, 39));
        c.due(NONE, x.fits(0, 40));
    }

    /** Each number of take() on both sides of its least and its most; the others are sound. */
    private static void takeNumbers() {
        BloodBank x = new BloodBank();
        c.says(12, "NONE (BANKS 0 .. 3)");
        for (int bank : new int[] {-1, 4, Make.DEEP, Make.FAR}) {
            c.due(NONE, x.take(bank, 0, 0, 0, 0, 1));
            c.says(12, "NONE; BAD: in this order");
            c.due(NONE, x.take(bank, 4, 0, 0, 0, 1));
        }
        String[] sentences = {"BAD: kind is not 0 .. 3", "BAD: .. donor not 0 .. 99", "BAD: .. group not 0 .. 7",
            "BAD: .. signs not 0 .. 65535", "BAD: .. grams not 1 .. 2000"};
        int[] least = {0, 0, 0, 0, 1};
        int[] most = {3, 99, 7, MOST, 2000};
        for (int which = 0; which < 5; which++) {
            c.says(12, sentences[which]);
            for (int wrong : new int[] {least[which] - 1, most[which] + 1, Make.DEEP, Make.FAR}) {
                c.due(BAD, takeWith(x, 0, which, wrong));
            }
            c.due(2 * which, takeWith(x, 0, which, least[which]));
            c.due(2 * which + 1, takeWith(x, 3, which, most[which]));
            c.due(2 * which + 2, x.count(1));
        }
        c.due(BAD, x.take(0, 5, 0, 0, 0, 1));
    }

    /** which: 0 kind, 1 donor, 2 group, 3 signs, 4 grams. */
    private static int takeWith(BloodBank x, int bank, int which, int n) {
        return x.take(bank, which == 0 ? n : 0, which == 1 ? n : 0, which == 2 ? n : 0, which == 3 ? n : 0,
            which == 4 ? n : 1);
    }

    private static void takenAsTold() {
        c.says(12, "not TESTED, FREE, WARM, RECALLED, RESERVED: its number");
        BloodBank x = new BloodBank();
        x.recall(99);
        c.due(0, x.take(3, 3, 99, 7, MOST, 2000));
        c.due(1, x.take(0, 0, 0, 0, 0, 1));
        int[] most = {0, 0, 0, 0, -9, 99, 7, MOST, 2000, 0, 40, 0, 0, 3, -9, -9, -9};
        int[] least = {0, 0, 0, 0, -9, 0, 0, 0, 1, 0, 120, 0, 0, 0, -9, -9, -9};
        for (int what = 0; what <= 16; what++) {
            c.due(most[what], x.told(0, what));
            c.due(least[what], x.told(1, what));
        }
        c.due(0, x.state(0));
    }

    private static void bagsFull() {
        BloodBank x = new BloodBank();
        for (int i = 0; i < 199; i++) {
            x.take(i % 4, i % 4, 1, 1, 0, 1);
        }
        c.says(12, "FULL (BAGS: 200, over all BANKS)");
        c.due(199, x.take(3, 0, 1, 1, 0, 1));
        for (int bank = 0; bank < 4; bank++) {
            c.due(FULL, x.take(bank, 0, 1, 1, 0, 1));
        }
        c.due(200, x.count(1));
        c.due(0, x.kindOf(199));
        c.due(NONE, x.kindOf(200));
        c.says(12, "NONE; BAD; FULL: in this order");
        for (int which = 0; which < 5; which++) {
            c.due(BAD, takeWith(x, 0, which, -1));
            c.due(NONE, takeWith(x, 4, which, -1));
        }
        c.due(NONE, x.take(4, 0, 1, 1, 0, 1));
        c.says(12, "numbered from 0 on, never anew");
        x.spoil(0);
        c.due(FULL, x.take(0, 0, 1, 1, 0, 1));
    }

    private static void lives() {
        c.says(12, "it expires its LIFE behind this MINUTE");
        int[] lives = {120, 160, 90, 40, 600, 30};
        BloodBank x = new BloodBank();
        for (int minute = 0; minute < 2; minute++) {
            for (int kind = 0; kind < 6; kind++) {
                int bag = Make.bag(x, kind);
                c.due(minute + lives[kind], x.told(bag, 10));
                c.due(lives[kind], x.bodies(bag, 2));
            }
            x.minute();
        }
    }

    private static void neverAnew() {
        c.saysInSection(1, "numbered from 0 on, never anew");
        BloodBank x = new BloodBank();
        c.due(0, Make.bag(x, Make.WHOLE));
        x.spoil(0);
        c.due(1, Make.bag(x, Make.WHOLE));
        c.due(2, x.part(1));
        c.due(5, Make.bag(x, Make.WHOLE));
    }

    private static void sent() {
        BloodBank x = new BloodBank();
        Make.bag(x, Make.WHOLE);
        c.says(13, "NONE");
        for (int wrong : new int[] {-1, 1, Make.DEEP, Make.FAR}) {
            c.due(NONE, x.send(wrong, 1));
        }
        for (int wrong : new int[] {-1, 4, Make.DEEP, Make.FAR}) {
            c.due(NONE, x.send(0, wrong));
        }
        c.says(13, "AS_IS: .. is of that BANK");
        c.due(AS_IS, x.send(0, 0));
        c.due(1, x.send(0, 3));
        c.due(AS_IS, x.send(0, 3));
        c.due(3, x.told(0, 13));
        c.due(1, x.send(0, 0));
        c.due(0, x.told(0, 13));
        c.says(13, "AS_IS: it lies in a RACK");
        int rack = Make.layInNewRack(x, 0);
        c.due(AS_IS, x.send(0, 1));
        c.due(AS_IS, x.send(0, 0));
        c.says(13, "NONE; AS_IS: in this order");
        c.due(NONE, x.send(0, 4));
        c.due(0, x.told(0, 13));
        c.due(0, x.at(rack, 0));
        c.says(13, "a BAG on a BENCH goes to that of another BANK");
        x.lift(rack, 0, Make.ALL);
        c.due(1, x.send(0, 1));
        c.due(0, x.state(0));
    }

    private static void sentGone() {
        for (int state = 0; state < 6; state++) {
            BloodBank x = new BloodBank();
            int bag = Make.inState(x, state);
            c.says(13, "GONE (2 to 5)");
            c.due(state == 0 ? 1 : state == 1 ? AS_IS : GONE, x.send(bag, 1));
            c.says(13, "NONE; GONE; AS_IS: in this order");
            c.due(state == 1 ? AS_IS : state == 0 ? 1 : GONE, x.send(bag, 0));
            c.due(NONE, x.send(bag, 4));
            c.due(0, x.told(bag, 13));
        }
    }

    private static void trayEnds() {
        BloodBank x = new BloodBank();
        Make.bags(x, Make.WHOLE, 8);
        x.spoil(7);
        c.says(20, "how many are on it");
        for (int i = 0; i < 5; i++) {
            c.due(i + 1, x.tray(i));
        }
        c.says(20, "AS_IS: it is there");
        c.due(AS_IS, x.tray(0));
        c.due(AS_IS, x.tray(4));
        c.says(20, "FULL: there are 6");
        c.due(6, x.tray(5));
        c.due(FULL, x.tray(6));
        c.due(6, x.count(4));
        c.says(20, "NONE; FULL; GONE; AS_IS: in this order");
        c.due(FULL, x.tray(7));
        c.due(FULL, x.tray(5));
        c.due(NONE, x.tray(8));
        c.due(NONE, x.tray(-1));
    }

    private static void trayFindings() {
        for (int state = 0; state < 6; state++) {
            BloodBank x = new BloodBank();
            int bag = Make.inState(x, state);
            c.says(20, "GONE (2 to 5)");
            c.due(state < 2 ? 1 : GONE, x.tray(bag));
            c.due(state < 2 ? AS_IS : GONE, x.tray(bag));
            c.says(20, "(it stays where it is)");
            c.due(state, x.state(bag));
            c.due(state == 1 ? 0 : -9, x.told(bag, 14));
            if (state < 2) {
                c.says(20, "GONE; AS_IS: in this order");
                x.spoil(bag);
                c.due(GONE, x.tray(bag));
            }
        }
    }

    private static void untrayed() {
        BloodBank x = new BloodBank();
        Make.bags(x, Make.WHOLE, 7);
        c.says(21, "how many were on it");
        c.due(0, x.untray());
        x.tray(0);
        c.due(1, x.untray());
        c.due(0, x.untray());
        for (int i = 0; i < 6; i++) {
            x.tray(i);
        }
        c.due(FULL, x.tray(6));
        c.due(6, x.untray());
        c.says(21, "the TRAY is empty");
        c.due(0, x.count(4));
        c.due(1, x.tray(6));
        c.due(2, x.tray(0));
    }

    private static void released() {
        for (int state = 0; state < 6; state++) {
            BloodBank x = new BloodBank();
            int bag = Make.inState(x, state);
            c.says(26, "AS_IS: it is not");
            c.due(AS_IS, x.release(bag));
        }
        BloodBank x = new BloodBank();
        x.patient(1, 0);
        Make.bag(x, Make.CELLS);
        c.says(26, "NONE");
        for (int wrong : new int[] {-1, 1, Make.DEEP, Make.FAR}) {
            c.due(NONE, x.release(wrong));
        }
        c.says(26, "a BAG is RESERVED no more: 1 (for PATIENT 0, too)");
        x.reserve(0, 0);
        c.due(1, x.release(0));
        c.due(-9, x.told(0, 4));
        c.due(AS_IS, x.release(0));
        c.saysInSection(4, "a BAG that becomes GONE .. stays for whom it is RESERVED");
        x.reserve(0, 0);
        x.spoil(0);
        c.due(0, x.told(0, 4));
        c.due(1, x.release(0));
        c.due(-9, x.told(0, 4));
    }

    private static void recallNumbers() {
        BloodBank x = new BloodBank();
        c.says(31, "BAD: it is not 0 .. 99");
        x.take(0, 0, 0, 1, 0, 1);
        x.take(0, 0, 99, 1, 0, 1);
        Make.pool(x, Make.PLASMA, Make.bag(x, Make.PLASMA), Make.bag(x, Make.PLASMA));
        for (int donor : new int[] {-1, 100, Make.DEEP, Make.FAR}) {
            c.due(BAD, x.recall(donor));
        }
        for (int bag = 0; bag < 5; bag++) {
            c.due(0, x.told(bag, 3));
        }
        c.due(1, x.recall(0));
        c.due(1, x.recall(99));
        c.due(0, x.recall(98));
        c.due(3, x.recall(1));
    }

    private static void recallCounts() {
        BloodBank x = new BloodBank();
        c.says(31, "how many were not ahead of it");
        c.due(0, x.recall(1));
        Make.bag(x, Make.WHOLE);
        c.due(1, x.recall(1));
        c.due(0, x.recall(1));
        Make.bag(x, Make.WHOLE);
        c.due(1, x.recall(1));
        c.says(31, "that are not AWAY, are RECALLED (GONE or not)");
        for (int state = 0; state < 6; state++) {
            BloodBank y = new BloodBank();
            int bag = Make.inState(y, state);
            int all = y.count(1);
            c.due(state == Make.AWAY ? all - 1 : all, y.recall(1));
            c.due(state == Make.AWAY ? 0 : 1, y.told(bag, 3));
            c.due(state == Make.AWAY ? bag : NONE, y.listed(0));
        }
    }

    /** Each bag came of the one ahead of it: frozen and thawed by turns until there is no room. */
    private static void recallDepth() {
        c.says(31, "what came of them, and so on");
        BloodBank x = new BloodBank();
        Make.bag(x, Make.PLASMA);
        for (int bag = 0; bag < 197; bag++) {
            c.due(bag + 1, bag % 2 == 0 ? x.freeze(bag) : x.thaw(bag));
        }
        int other = x.take(0, Make.PLASMA, 2, 1, 0, 1);
        int pool = Make.pool(x, Make.PLASMA, other, 197);
        c.due(199, pool);
        c.due(199, x.recall(1));
        c.due(1, x.told(pool, 3));
        c.due(0, x.told(other, 3));
        c.due(1, x.recall(2));
    }

    /** Of a pool of six the donor asked for is in one of the places 0 .. 5, the others are of another. */
    private static void recallOfPools() {
        for (int place = 0; place < 6; place++) {
            BloodBank x = new BloodBank();
            for (int i = 0; i < 6; i++) {
                x.tray(Make.bag(x, Make.PLATELETS, i == place ? 7 : 8));
            }
            c.due(6, x.pool(Make.PLATELETS));
            c.says(31, "what came of them");
            c.due(2, x.recall(7));
            c.due(1, x.told(6, 3));
            c.due(1, x.told(place, 3));
            c.due(5, x.recall(8));
        }
    }

    private static void listedEnds() {
        BloodBank x = new BloodBank();
        x.patient(1, 0);
        c.says(32, "NONE: there is none");
        c.due(NONE, x.listed(0));
        for (int i = 0; i < 4; i++) {
            Make.ready(x, Make.CELLS);
        }
        x.give(3, 0);
        x.give(1, 0);
        c.due(NONE, x.listed(0));
        c.says(31, "those of all these that are AWAY are LISTED");
        c.due(2, x.recall(1));
        c.says(32, "the k-th BAG (from 0, by numbers)");
        c.due(1, x.listed(0));
        c.due(3, x.listed(1));
        for (int k : new int[] {-1, 2, 200, Make.DEEP, Make.FAR}) {
            c.due(NONE, x.listed(k));
        }
        c.says(32, "that the latest recall() not refused LISTED");
        c.due(BAD, x.recall(-1));
        c.due(BAD, x.recall(100));
        c.due(3, x.listed(1));
    }

    private static void listedAnew() {
        BloodBank x = new BloodBank();
        x.patient(1, 0);
        for (int i = 0; i < 3; i++) {
            Make.ready(x, Make.CELLS);
            x.give(i, 0);
        }
        x.recall(1);
        c.due(2, x.listed(2));
        c.says(31, "(in place of what was before)");
        x.home(0);
        c.due(1, x.recall(1));
        c.due(1, x.listed(0));
        c.due(2, x.listed(1));
        c.due(NONE, x.listed(2));
        c.due(0, x.recall(2));
        c.due(NONE, x.listed(0));
        c.says(31, "that are not AWAY, are RECALLED: those AWAY are not, and may be given again");
        c.due(0, x.told(1, 3));
        x.home(1);
        c.due(1, x.give(1, 0));
    }

    /** One sign against one antibody, for all pairs of the 16 bits. */
    private static void signsAndAntibodies() {
        c.saysInSection(2, "WHOLE, CELLS: no SIGN is in t");
        for (int sign = 0; sign < 16; sign++) {
            BloodBank x = new BloodBank();
            for (int kind = 0; kind < 4; kind++) {
                x.take(0, kind, 1, 1, 1 << sign, 100);
            }
            int frozen = x.freeze(x.take(0, Make.PLASMA, 1, 1, 1 << sign, 100));
            for (int antibody = 0; antibody < 16; antibody++) {
                x.patient(1, 1 << antibody);
                for (int bag = 0; bag < 4; bag++) {
                    c.due(bag < 2 && sign == antibody ? 0 : 1, x.fits(bag, antibody));
                }
                c.due(1, x.fits(frozen, antibody));
            }
        }
    }

    /** Each row tells, for one group of a bag, the groups of patients that it fits, as bits 0 .. 7. */
    private static void groups() {
        String[] sentences = {"WHOLE: bits A, B of both alike, D of the BAG only if of p",
            "CELLS: each bit of its GROUP is in p", "PLASMA, FROZEN: bits A, B of p are in its GROUP",
            "PLATELETS: bits A, B alike", "PLASMA, FROZEN: bits A, B of p are in its GROUP"};
        int[][] fitting = {
            {0x11, 0x22, 0x44, 0x88, 0x10, 0x20, 0x40, 0x80}, {0xFF, 0xAA, 0xCC, 0x88, 0xF0, 0xA0, 0xC0, 0x80},
            {0x11, 0x33, 0x55, 0xFF, 0x11, 0x33, 0x55, 0xFF}, {0x11, 0x22, 0x44, 0x88, 0x11, 0x22, 0x44, 0x88},
            {0x11, 0x33, 0x55, 0xFF, 0x11, 0x33, 0x55, 0xFF}};
        for (int kind = 0; kind < 5; kind++) {
            c.saysInSection(2, sentences[kind]);
            BloodBank x = new BloodBank();
            for (int p = 0; p < 8; p++) {
                x.patient(p, 0);
            }
            for (int g = 0; g < 8; g++) {
                int bag = x.take(0, kind == Make.FROZEN ? Make.PLASMA : kind, 1, g, MOST, 100);
                bag = kind == Make.FROZEN ? x.freeze(bag) : bag;
                for (int p = 0; p < 8; p++) {
                    c.due(fitting[kind][g] >> p & 1, x.fits(bag, p));
                }
            }
        }
    }

    /** The one that does not fit is the first, the last or one between. */
    private static void poolFits() {
        c.saysInSection(2, "POOL: each that it was made of FITS");
        for (int odd = 0; odd < 7; odd++) {
            BloodBank x = new BloodBank();
            x.patient(1, 0);
            for (int i = 0; i < 6; i++) {
                x.tray(x.take(0, Make.PLATELETS, 1, i == odd ? 0 : 1, 0, 1));
            }
            c.due(6, x.pool(Make.PLATELETS));
            c.due(odd == 6 ? 1 : 0, x.fits(6, 0));
        }
    }

    /** A pool's own group (the bits that all have) and signs would tell otherwise. */
    private static void poolFitsBySources() {
        c.saysInSection(2, "POOL: each that it was made of FITS");
        BloodBank x = new BloodBank();
        x.patient(0, MOST);
        x.patient(1, MOST);
        int a = x.take(0, Make.PLATELETS, 1, 1, MOST, 1);
        int b = x.take(0, Make.PLATELETS, 1, 2, MOST, 1);
        int unlike = Make.pool(x, Make.PLATELETS, a, b);
        c.due(0, x.told(unlike, 6));
        c.due(0, x.fits(unlike, 0));
        int alike = Make.pool(x, Make.PLATELETS, x.take(0, Make.PLATELETS, 1, 1, MOST, 1),
            x.take(0, Make.PLATELETS, 1, 5, 0, 1));
        c.due(1, x.fits(alike, 1));
        c.due(0, x.fits(alike, 0));
    }

    /** Grams at which nothing, one, two and three grams are left over. */
    private static void shares() {
        c.saysInSection(2, "SHARES: each cut to a whole number; what is left over goes by single grams");
        // grams, CELLS, PLASMA, PLATELETS, LOSS
        int[][] due = {{1, 1, 0, 0, 0}, {2, 1, 1, 0, 0}, {3, 2, 1, 0, 0}, {16, 8, 8, 0, 0}, {17, 8, 8, 1, 0},
            {25, 12, 12, 1, 0}, {32, 15, 16, 1, 0}, {33, 15, 16, 2, 0}, {34, 15, 16, 2, 1}, {50, 23, 23, 3, 1},
            {99, 44, 47, 6, 2}, {100, 44, 47, 6, 3}, {101, 45, 47, 6, 3}, {453, 200, 213, 27, 13},
            {1999, 880, 940, 120, 59}, {2000, 880, 940, 120, 60}};
        for (int[] row : due) {
            BloodBank x = new BloodBank();
            x.take(0, 0, 1, 1, 0, row[0]);
            c.due(1, x.part(0));
            c.due(row[4], x.told(0, 9));
            c.due(row[0], row[1] + row[2] + row[3] + row[4]);
            for (int i = 1; i <= 3; i++) {
                c.due(row[i], x.told(i, 8));
                c.due(0, x.told(i, 9));
            }
        }
    }
}
