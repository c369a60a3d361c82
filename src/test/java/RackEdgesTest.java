/** Promises 1 to 10 and section 3 at their edges: one sentence of the document after the other, from both sides. */
public final class RackEdgesTest {
    private static final int NONE = BloodBank.NONE, BAD = BloodBank.BAD, FULL = BloodBank.FULL;
    private static final int NO_ROW = BloodBank.NO_ROW, PLACE = BloodBank.PLACE, EMPTY = BloodBank.EMPTY,
        TAKEN = BloodBank.TAKEN, SIZE = BloodBank.SIZE, AS_IS = BloodBank.AS_IS;
    private static final long NO_NUMBER = 2143289344L;
    private static final int[] MARKS = {60, 60, 80, 240, -180};
    private static final int[] SPANS = {3, 3, 5, 8, 2, 4};
    private static final Check c = new Check("RackEdgesTest");

    public static void main(String[] args) {
        newObject();
        rackNumbers();
        rackFull();
        rowSizes();
        rowTaken();
        rowLeft();
        unrowed();
        probed();
        coldNumbers();
        coldFull();
        readingEnds();
        readingForms();
        minuteNumbers();
        firstReading();
        lateReading();
        unreadMinutes();
        marks();
        poolMarks();
        spans();
        rowsOfMinutesEnd();
        warmStays();
        notLookedAt();
        eachRackAndPlace();
        allBags();
        c.end();
    }

    private static BloodBank withRow(int places) {
        BloodBank x = new BloodBank();
        Make.rack(x, places);
        return x;
    }

    private static BloodBank withProbe() {
        BloodBank x = withRow(1);
        x.probe(0, true);
        return x;
    }

    private static void newObject() {
        c.says(1, "MINUTE 0; no RACKS, BAGS, PATIENTS");
        BloodBank x = new BloodBank();
        for (int what = 0; what < 5; what++) {
            c.due(0, x.count(what));
        }
        c.due(NONE, x.places(0));
        c.due(NONE, x.kindOf(0));
        c.due(0, Make.bag(x, Make.CELLS));
        c.due(NONE, x.fits(0, 0));
        c.due(0, x.rack(0, 0));
        c.due(0, x.patient(1, 0));
    }

    private static void rackNumbers() {
        BloodBank x = new BloodBank();
        c.says(2, "NONE (BANKS 0 .. 3)");
        for (int bank : new int[] {-1, 4, Make.DEEP, Make.FAR}) {
            c.due(NONE, x.rack(bank, 0));
        }
        c.due(0, x.rack(0, 0));
        c.due(1, x.rack(3, 0));
        c.says(2, "BAD: kind is not 0 .. 6");
        for (int kind : new int[] {-1, 7, Make.DEEP, Make.FAR}) {
            c.due(BAD, x.rack(0, kind));
        }
        c.due(2, x.rack(0, 6));
        c.due(3, x.rack(0, 0));
        c.says(2, "NONE; BAD: in this order");
        c.due(NONE, x.rack(-1, -1));
        c.due(NONE, x.rack(4, 7));
        c.says(2, "it has no ROW, and no PROBE");
        c.due(NO_ROW, x.places(3));
        c.due(NO_ROW, x.readings(3));
        c.says(2, "refused: changing nothing");
        c.due(4, x.count(0));
        c.due(NONE, x.places(4));
    }

    private static void rackFull() {
        BloodBank x = new BloodBank();
        c.says(2, "FULL (RACKS: 12, numbered from 0 on)");
        for (int i = 0; i < 12; i++) {
            c.due(i, x.rack(i % 4, i % 7));
        }
        c.due(FULL, x.rack(0, 6));
        c.due(12, x.count(0));
        c.due(NO_ROW, x.places(11));
        c.due(NONE, x.places(12));
        c.says(2, "NONE; BAD; FULL: in this order");
        c.due(NONE, x.rack(4, 6));
        c.due(BAD, x.rack(3, 7));
        c.due(NONE, x.rack(4, 7));
    }

    private static void rowSizes() {
        BloodBank x = new BloodBank();
        x.rack(0, 6);
        c.says(3, "BAD: n above 20");
        c.due(BAD, x.row(0, 21));
        c.due(BAD, x.row(0, Make.FAR));
        c.due(NO_ROW, x.places(0));
        c.due(1, x.row(0, 20));
        c.due(20, x.places(0));
        c.due(EMPTY, x.at(0, 19));
        c.due(PLACE, x.at(0, 20));
        c.says(3, "SIZE: a size below 0");
        c.due(SIZE, x.row(0, -1));
        c.due(SIZE, x.row(0, Make.DEEP));
        c.due(20, x.places(0));
        c.due(1, x.row(0, 0));
        c.due(0, x.places(0));
        c.due(PLACE, x.at(0, 0));
        c.due(1, x.row(0, 1));
        c.due(EMPTY, x.at(0, 0));
        c.due(PLACE, x.at(0, 1));
        c.says(3, "NONE");
        c.due(NONE, x.row(-1, 1));
        c.due(NONE, x.row(1, 1));
        c.says(3, "NONE; BAD; SIZE: in this order");
        c.due(NONE, x.row(1, 21));
        c.due(NONE, x.row(1, -1));
    }

    /** The bag lies in the first or in the last place of short and of long rows. */
    private static void rowTaken() {
        for (int size : new int[] {1, 2, 20}) {
            for (int place = 0; place < size; place += Math.max(1, size - 1)) {
                BloodBank x = withRow(size);
                x.lay(Make.bag(x, Make.WHOLE), 0, place);
                c.says(3, "TAKEN: a BAG lies in it");
                c.due(TAKEN, x.row(0, 20));
                c.due(TAKEN, x.row(0, 0));
                c.says(3, "BAD; TAKEN; SIZE: in this order");
                c.due(BAD, x.row(0, 21));
                c.due(TAKEN, x.row(0, -1));
                c.says(4, "TAKEN: a BAG lies in it");
                c.due(TAKEN, x.unrow(0));
                c.due(size, x.places(0));
                c.due(0, x.at(0, place));
                x.lift(0, place, Make.ALL);
                c.says(4, "how many PLACES it had");
                c.due(size, x.unrow(0));
                c.says(3, "without BAGS");
                c.due(1, x.row(0, 20));
                c.due(EMPTY, x.at(0, place));
            }
        }
    }

    /** A bag in a row of two leaves it in each way there is; then nothing lies in it. */
    private static void rowLeft() {
        for (int way = 0; way < 7; way++) {
            BloodBank x = withRow(2);
            int[] kinds = {Make.WHOLE, Make.WHOLE, Make.WHOLE, Make.WHOLE, Make.PLASMA, Make.FROZEN, Make.PLATELETS};
            int bag = Make.ready(x, kinds[way]);
            x.lay(bag, 0, 1);
            c.saysInSection(4, "a BAG that becomes GONE leaves its PLACE");
            c.due(TAKEN, x.unrow(0));
            leave(x, bag, way);
            c.due(EMPTY, x.at(0, 1));
            c.due(-9, x.told(bag, 14));
            c.due(-9, x.told(bag, 15));
            c.due(1, x.row(0, 3));
            c.due(3, x.unrow(0));
        }
    }

    private static void leave(BloodBank x, int bag, int way) {
        switch (way) {
            case 0: x.lift(0, 1, Make.ALL); break;
            case 1: x.spoil(bag); break;
            case 2: x.give(bag, x.patient(1, 0)); break;
            case 3: x.part(bag); break;
            case 4: x.freeze(bag); break;
            case 5: x.thaw(bag); break;
            default: Make.pool(x, Make.PLATELETS, Make.bag(x, Make.PLATELETS), bag); break;
        }
    }

    private static void unrowed() {
        BloodBank x = new BloodBank();
        x.rack(0, 6);
        c.says(4, "NONE");
        c.due(NONE, x.unrow(-1));
        c.due(NONE, x.unrow(1));
        c.says(4, "NO_ROW");
        c.due(NO_ROW, x.unrow(0));
        c.says(4, "how many PLACES it had");
        for (int size : new int[] {0, 1, 20}) {
            x.row(0, size);
            c.due(size, x.unrow(0));
            c.due(NO_ROW, x.unrow(0));
            c.due(NO_ROW, x.places(0));
            c.due(NO_ROW, x.at(0, 0));
        }
    }

    private static void probed() {
        BloodBank x = new BloodBank();
        x.rack(0, 6);
        c.says(5, "NONE");
        c.due(NONE, x.probe(-1, true));
        c.due(NONE, x.probe(1, false));
        c.says(5, "AS_IS");
        c.due(AS_IS, x.probe(0, false));
        c.due(1, x.probe(0, true));
        x.cold(0, 1);
        c.due(AS_IS, x.probe(0, true));
        c.due(1, x.readings(0));
        c.says(5, "taken out (its ROW goes)");
        c.due(1, x.probe(0, false));
        c.due(NO_ROW, x.readings(0));
        c.due(AS_IS, x.probe(0, false));
        c.says(5, "a ROW without READINGS");
        c.due(1, x.probe(0, true));
        c.due(0, x.readings(0));
        c.dueThrow(IndexOutOfBoundsException.class, x, 0, 0);
        c.due(1, x.cold(0, 2));
    }

    private static void coldNumbers() {
        BloodBank x = withRow(1);
        c.says(6, "NO_ROW: no PROBE");
        c.due(NO_ROW, x.cold(0, 0));
        c.says(7, "NO_ROW");
        c.due(NO_ROW, x.fails(0));
        c.says(9, "NO_ROW");
        c.due(NO_ROW, x.readings(0));
        c.says(6, "BAD; NO_ROW: in this order");
        c.due(BAD, x.cold(0, 501));
        x.probe(0, true);
        c.says(6, "BAD: it is not -500 .. 500");
        for (int tenths : new int[] {-501, 501, Make.DEEP, Make.FAR}) {
            c.due(BAD, x.cold(0, tenths));
        }
        c.due(0, x.readings(0));
        c.due(1, x.cold(0, -500));
        c.due(2, x.cold(0, 500));
        c.says(6, "NONE; BAD: in this order");
        c.due(NONE, x.cold(-1, 501));
        c.due(NONE, x.cold(1, -501));
        c.due(NONE, x.cold(1, 0));
        c.says(7, "NONE");
        c.due(NONE, x.fails(-1));
        c.due(NONE, x.fails(1));
        c.says(7, "how many there are");
        c.due(3, x.fails(0));
        c.says(9, "NONE");
        c.due(NONE, x.readings(-1));
        c.due(NONE, x.readings(1));
        c.says(9, "how many READINGS a RACK has");
        c.due(3, x.readings(0));
    }

    private static void coldFull() {
        BloodBank x = withProbe();
        for (int i = 0; i < 298; i++) {
            x.cold(0, i);
        }
        c.says(6, "FULL: there are 300");
        c.due(299, x.cold(0, 1));
        c.says(7, "FULL: there are 300");
        c.due(300, x.fails(0));
        c.due(FULL, x.fails(0));
        c.says(6, "FULL: there are 300");
        c.due(FULL, x.cold(0, 500));
        c.says(6, "NONE; BAD; FULL: in this order");
        c.due(BAD, x.cold(0, 501));
        c.due(NONE, x.cold(1, 501));
        c.says(7, "NONE; FULL: in this order");
        c.due(NONE, x.fails(1));
        c.says(9, "how many READINGS a RACK has");
        c.due(300, x.readings(0));
        c.says(8, "IndexOutOfBoundsException: no such .. READING");
        c.due(NO_NUMBER, x.reading(0, 299));
        c.dueThrow(IndexOutOfBoundsException.class, x, 0, 300);
        c.says(6, "FULL: .. of this RACK alone");
        x.rack(0, 6);
        x.probe(1, true);
        c.due(1, x.cold(1, 0));
        c.says(5, "a ROW without READINGS");
        x.probe(0, false);
        c.says(6, "NO_ROW: no PROBE");
        c.due(NO_ROW, x.cold(0, 0));
        x.probe(0, true);
        c.due(1, x.cold(0, 0));
    }

    private static void readingEnds() {
        BloodBank x = withRow(1);
        c.says(8, "IndexOutOfBoundsException: no such RACK (ahead of all)");
        for (int rack : new int[] {-1, 1, 12, Make.DEEP, Make.FAR}) {
            c.dueThrow(IndexOutOfBoundsException.class, x, rack, 0);
            c.dueThrow(IndexOutOfBoundsException.class, x, rack, -1);
        }
        c.says(8, "READING (last); IllegalStateException: no PROBE");
        for (int k : new int[] {0, -1, 300, Make.DEEP, Make.FAR}) {
            c.dueThrow(IllegalStateException.class, x, 0, k);
        }
        x.probe(0, true);
        c.says(8, "the k-th READING (from 0)");
        c.dueThrow(IndexOutOfBoundsException.class, x, 0, 0);
        x.cold(0, 0);
        x.fails(0);
        c.due(0, x.reading(0, 0));
        c.due(NO_NUMBER, x.reading(0, 1));
        for (int k : new int[] {-1, 2, 299, 300, Make.DEEP, Make.FAR}) {
            c.dueThrow(IndexOutOfBoundsException.class, x, 0, k);
        }
    }

    private static void readingForms() {
        c.says(8, "as the 32 bits of its form (with sign)");
        BloodBank x = withProbe();
        int[] tenths = {-500, -499, -320, -319, -180, -10, -2, -1, 0, 1, 2, 4, 5, 9, 10, 11, 60, 61, 80, 81, 159, 160,
            240, 241, 319, 320, 499, 500};
        for (int i = 0; i < tenths.length; i++) {
            x.cold(0, tenths[i]);
            c.due(Float.floatToIntBits(tenths[i] / 10f), x.reading(0, i));
        }
        c.due(x.reading(0, 0) < 0, "the form of a reading below 0 has its sign");
    }

    private static void minuteNumbers() {
        c.says(10, "the MINUTE that is then");
        BloodBank x = new BloodBank();
        c.due(0, x.count(3));
        c.due(1, x.minute());
        c.due(1, x.count(3));
        c.due(2, x.minute());
    }

    /** Unread minutes, row of minutes, warm. */
    private static void due(BloodBank x, int bag, int unread, int row, int warm) {
        c.due(unread, x.told(bag, 11));
        c.due(row, x.told(bag, 12));
        c.due(warm, x.told(bag, 2));
    }

    private static void firstReading() {
        c.saysInSection(3, "the first one being that of the MINUTE in which it was put in");
        BloodBank x = withRow(1);
        x.lay(Make.bag(x, Make.WHOLE), 0, 0);
        Make.pass(x, 2);
        x.probe(0, true);
        x.cold(0, 61);
        x.cold(0, 60);
        x.cold(0, 61);
        x.cold(0, 61);
        due(x, 0, 2, 0, 0);
        int[] rows = {1, 0, 1, 2};
        for (int row : rows) {
            x.minute();
            due(x, 0, 2, row, 0);
        }
        x.minute();
        due(x, 0, 3, 0, 0);
        // taken out and put in within one minute: what was read of that minute is gone
        x.cold(0, 0);
        x.cold(0, 61);
        x.probe(0, false);
        x.probe(0, true);
        x.minute();
        due(x, 0, 4, 0, 0);
    }

    private static void lateReading() {
        c.saysInSection(3, "looks .. at the READING of that MINUTE: there may be .. none so far");
        BloodBank x = withProbe();
        x.lay(Make.bag(x, Make.WHOLE), 0, 0);
        x.minute();
        due(x, 0, 1, 0, 0);
        x.cold(0, 61);
        due(x, 0, 1, 0, 0);
        x.minute();
        due(x, 0, 2, 0, 0);
        x.cold(0, 61);
        x.cold(0, 61);
        x.minute();
        due(x, 0, 2, 1, 0);
    }

    private static void unreadMinutes() {
        c.saysInSection(3, "no PROBE, none so far, or no number: then it is UNREAD: its ROW OF MINUTES ends");
        for (int why = 0; why < 5; why++) {
            BloodBank x = withProbe();
            int bag = Make.ready(x, Make.WHOLE);
            x.lay(bag, 0, 0);
            x.cold(0, 500);
            x.cold(0, 500);
            Make.pass(x, 2);
            due(x, bag, 0, 2, 0);
            switch (why) {
                case 0: x.probe(0, false); break;
                case 1: break;
                case 2: x.fails(0); break;
                case 3: x.lift(0, 0, Make.ALL); break;
                default: x.give(bag, x.patient(1, 0)); break;
            }
            x.minute();
            due(x, bag, 1, 0, 0);
            x.minute();
            due(x, bag, 2, 0, 0);
        }
    }

    private static void marks() {
        c.saysInSection(2, "MARK, in tenths of a degree: 60, 60, 80, 240, -180");
        for (int kind = 0; kind < 5; kind++) {
            BloodBank x = withProbe();
            int bag = Make.bag(x, kind);
            x.lay(bag, 0, 0);
            dueAtMark(x, bag, MARKS[kind]);
        }
    }

    /** At the mark and one below the row ends, one above it is longer. */
    private static void dueAtMark(BloodBank x, int bag, int mark) {
        c.due(mark, x.bodies(bag, 0));
        x.cold(0, mark + 1);
        x.cold(0, mark);
        x.cold(0, mark + 1);
        x.cold(0, mark - 1);
        for (int row = 1; row >= 0; row--) {
            x.minute();
            due(x, bag, 0, row, 0);
        }
        for (int row = 1; row >= 0; row--) {
            x.minute();
            due(x, bag, 0, row, 0);
        }
    }

    private static void poolMarks() {
        c.saysInSection(2, "MARK .. of a POOL the least of those it was made of");
        int[][] mixes = {{2, 2}, {2, 4}, {4, 2}, {4, 4}, {2, 2, 2, 2, 2, 4}, {4, 2, 2, 2, 2, 2}, {3, 3}};
        int[] marks = {80, -180, -180, -180, -180, -180, 240};
        for (int i = 0; i < mixes.length; i++) {
            BloodBank x = withProbe();
            int[] sources = new int[mixes[i].length];
            for (int k = 0; k < sources.length; k++) {
                sources[k] = Make.bag(x, mixes[i][k]);
            }
            int pool = Make.pool(x, mixes[i][0] == Make.PLATELETS ? Make.PLATELETS : Make.PLASMA, sources);
            x.lay(pool, 0, 0);
            dueAtMark(x, pool, marks[i]);
        }
    }

    private static void spans() {
        c.saysInSection(3, "its ROW is one longer (and if that is its SPAN or more, it is WARM)");
        for (int kind = 0; kind < 6; kind++) {
            BloodBank x = withProbe();
            int bag = Make.bag(x, kind);
            x.lay(bag, 0, 0);
            for (int row = 1; row <= SPANS[kind] + 2; row++) {
                x.cold(0, 500);
                x.minute();
                due(x, bag, 0, row, row < SPANS[kind] ? 0 : 1);
            }
        }
    }

    private static void rowsOfMinutesEnd() {
        c.saysInSection(3, "it is not above: its ROW ends");
        for (int kind = 0; kind < 6; kind++) {
            for (int how = 0; how < 2; how++) {
                BloodBank x = withProbe();
                int bag = Make.bag(x, kind);
                x.lay(bag, 0, 0);
                for (int again = 0; again < 2; again++) {
                    warmFor(x, SPANS[kind] - 1);
                    due(x, bag, again * how, SPANS[kind] - 1, 0);
                    if (how == 0) {
                        x.cold(0, -500);
                    } else {
                        x.fails(0);
                    }
                    x.minute();
                    due(x, bag, (again + 1) * how, 0, 0);
                }
                warmFor(x, SPANS[kind]);
                due(x, bag, 2 * how, SPANS[kind], 1);
            }
        }
    }

    private static void warmFor(BloodBank x, int minutes) {
        for (int i = 0; i < minutes; i++) {
            x.cold(0, 500);
            x.minute();
        }
    }

    private static void warmStays() {
        c.saysInSection(3, "it is WARM: when its ROW has ended, too");
        BloodBank x = withProbe();
        x.lay(Make.bag(x, Make.WHOLE), 0, 0);
        warmFor(x, 3);
        x.cold(0, -500);
        x.minute();
        due(x, 0, 0, 0, 1);
        x.lift(0, 0, Make.ALL);
        x.minute();
        due(x, 0, 1, 0, 1);
    }

    private static void notLookedAt() {
        c.saysInSection(3, "BAGS that are PARTED, POOLED, SPOILT are not looked at; AWAY, BENCH: UNREAD");
        for (int state = 0; state < 6; state++) {
            BloodBank x = new BloodBank();
            int bag = Make.inState(x, state);
            c.due(state, x.state(bag));
            Make.pass(x, 2);
            due(x, bag, state <= Make.AWAY ? 2 : 0, 0, 0);
        }
        for (int state = 3; state < 6; state++) {
            BloodBank x = withProbe();
            int bag = Make.bag(x, Make.PLASMA);
            x.lay(bag, 0, 0);
            x.minute();
            x.cold(0, 0);
            x.cold(0, 500);
            x.minute();
            due(x, bag, 1, 1, 0);
            switch (state) {
                case Make.PARTED: x.freeze(bag); break;
                case Make.POOLED: Make.pool(x, Make.PLASMA, bag, Make.bag(x, Make.PLASMA)); break;
                default: x.spoil(bag); break;
            }
            x.minute();
            due(x, bag, 1, 1, 0);
        }
    }

    private static void allBags() {
        c.says(10, "a MINUTE passes (with all 200 BAGS)");
        BloodBank x = new BloodBank();
        Make.bags(x, Make.CELLS, 200);
        c.due(1, x.minute());
        due(x, 0, 1, 0, 0);
        due(x, 199, 1, 0, 0);
    }

    /** In the first and the last of twelve racks, in the first and the last of twenty places. */
    private static void eachRackAndPlace() {
        c.saysInSection(3, "for each RACK .. for each BAG in a RACK");
        BloodBank x = new BloodBank();
        for (int rack = 0; rack < 12; rack++) {
            Make.rack(x, 20);
            x.probe(rack, true);
        }
        for (int i = 0; i < 4; i++) {
            Make.bag(x, Make.WHOLE);
            c.due(1, x.lay(i, i / 2 * 11, i % 2 * 19));
        }
        x.cold(0, 61);
        x.minute();
        due(x, 0, 0, 1, 0);
        due(x, 1, 0, 1, 0);
        due(x, 2, 1, 0, 0);
        due(x, 3, 1, 0, 0);
        x.fails(0);
        x.cold(11, 60);
        x.cold(11, 61);
        x.minute();
        due(x, 0, 1, 0, 0);
        due(x, 1, 1, 0, 0);
        due(x, 2, 1, 1, 0);
        due(x, 3, 1, 1, 0);
    }
}
