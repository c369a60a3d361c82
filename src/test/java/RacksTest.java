/** Promises 1 to 10: a new object, racks, rows, probes, readings, minutes. */
public final class RacksTest {
    private static final int NONE = BloodBank.NONE, BAD = BloodBank.BAD, FULL = BloodBank.FULL;
    private static final int NO_ROW = BloodBank.NO_ROW, TAKEN = BloodBank.TAKEN, SIZE = BloodBank.SIZE,
        AS_IS = BloodBank.AS_IS, EMPTY = BloodBank.EMPTY;
    private static final int[] NO_BANKS_OR_RACKS = {-1, 12, 100, Integer.MIN_VALUE, Integer.MAX_VALUE};
    private static final Check c = new Check("RacksTest");

    public static void main(String[] args) {
        newObject();
        racks();
        rows();
        probes();
        readings();
        forms();
        minutesInRacks();
        minutesByKinds();
        minutesOutOfRacks();
        readingsAhead();
        c.end();
    }

    private static void newObject() {
        c.promise(1);
        BloodBank x = new BloodBank();
        for (int what = 0; what < 5; what++) {
            c.due(0, x.count(what));
        }
        for (int act = 0; act < 14; act++) {
            c.due(0, x.tries(act));
        }
        c.due(0, x.status());
        c.due(0, x.locked());
        c.due(7, x.digest());
        c.due(NONE, x.listed(0));
        c.due(NONE, x.kindOf(0));
        c.due(NONE, x.places(0));
        c.due(NONE, x.reserve(0, 0));
        c.due(1, x.minute());
    }

    private static void racks() {
        c.promise(2);
        BloodBank x = new BloodBank();
        c.due(NONE, x.rack(-1, 6));
        c.due(NONE, x.rack(4, 6));
        c.due(NONE, x.rack(4, 7));
        c.due(BAD, x.rack(0, -1));
        c.due(BAD, x.rack(3, 7));
        for (int i = 0; i < 12; i++) {
            c.due(i, x.rack(i % 4, i % 7));
            c.due(i + 1, x.count(0));
            c.due(NO_ROW, x.places(i));
            c.due(NO_ROW, x.readings(i));
        }
        c.due(FULL, x.rack(0, 6));
        c.due(BAD, x.rack(0, 7));
        c.due(NONE, x.rack(4, 6));
        c.due(12, x.count(0));
        c.due(0, x.status());
    }

    private static void rows() {
        c.promise(3);
        BloodBank x = new BloodBank();
        x.rack(0, 6);
        for (int wrong : NO_BANKS_OR_RACKS) {
            c.due(NONE, x.row(wrong, 21));
            c.due(NONE, x.unrow(wrong));
        }
        c.due(NONE, x.row(1, 5));
        c.due(BAD, x.row(0, 21));
        c.due(BAD, x.row(0, Integer.MAX_VALUE));
        c.due(SIZE, x.row(0, -1));
        c.due(SIZE, x.row(0, Integer.MIN_VALUE));
        c.due(NO_ROW, x.places(0));
        c.due(1, x.row(0, 20));
        c.due(20, x.places(0));
        c.due(1, x.row(0, 0));
        c.due(0, x.places(0));
        c.due(BloodBank.PLACE, x.at(0, 0));
        c.due(1, x.row(0, 3));
        x.take(0, 0, 1, 1, 1, 100);
        x.lay(0, 0, 2);
        c.due(BAD, x.row(0, 21));
        c.due(TAKEN, x.row(0, 4));
        c.due(TAKEN, x.row(0, -1));
        c.due(3, x.places(0));
        c.due(0, x.at(0, 2));

        c.promise(4);
        c.due(TAKEN, x.unrow(0));
        c.due(0, x.lift(0, 2, 6));
        c.due(3, x.unrow(0));
        c.due(NO_ROW, x.unrow(0));
        c.due(NO_ROW, x.places(0));
        c.due(1, x.row(0, 0));
        c.due(0, x.unrow(0));
        c.due(NO_ROW, x.unrow(0));
        c.due(NONE, x.unrow(1));
        c.due(1, x.row(0, 20));
        c.due(EMPTY, x.at(0, 19));
        x.lay(0, 0, 19);
        x.spoil(0);
        c.due(1, x.row(0, 4));
        c.due(4, x.unrow(0));
    }

    private static void probes() {
        c.promise(5);
        BloodBank x = new BloodBank();
        c.due(NONE, x.probe(0, true));
        x.rack(0, 6);
        c.due(NONE, x.probe(-1, true));
        c.due(NONE, x.probe(1, false));
        c.due(AS_IS, x.probe(0, false));
        c.due(1, x.probe(0, true));
        c.due(AS_IS, x.probe(0, true));
        c.due(0, x.readings(0));
        c.due(1, x.cold(0, 5));
        c.due(1, x.probe(0, false));
        c.due(AS_IS, x.probe(0, false));
        c.due(NO_ROW, x.readings(0));
        c.due(1, x.probe(0, true));
        c.due(0, x.readings(0));
    }

    private static void readings() {
        BloodBank x = new BloodBank();
        x.rack(0, 6);
        c.promise(6);
        c.due(NONE, x.cold(1, 501));
        c.due(NONE, x.cold(-1, 0));
        c.due(BAD, x.cold(0, 501));
        c.due(BAD, x.cold(0, -501));
        c.due(BAD, x.cold(0, Integer.MIN_VALUE));
        c.due(NO_ROW, x.cold(0, 500));
        c.promise(7);
        c.due(NONE, x.fails(1));
        c.due(NO_ROW, x.fails(0));
        c.promise(8);
        c.dueThrow(IndexOutOfBoundsException.class, x, 1, 0);
        c.dueThrow(IndexOutOfBoundsException.class, x, -1, 0);
        c.dueThrow(IllegalStateException.class, x, 0, 0);
        c.dueThrow(IllegalStateException.class, x, 0, -1);
        c.promise(9);
        c.due(NONE, x.readings(1));
        c.due(NONE, x.readings(-1));
        c.due(NO_ROW, x.readings(0));

        x.probe(0, true);
        c.promise(8);
        c.dueThrow(IndexOutOfBoundsException.class, x, 0, 0);
        c.dueThrow(IndexOutOfBoundsException.class, x, 0, -1);
        c.promise(6);
        for (int i = 1; i < 300; i++) {
            c.due(i, i % 2 == 0 ? x.cold(0, 500) : x.fails(0));
        }
        c.promise(7);
        c.due(300, x.fails(0));
        c.due(FULL, x.fails(0));
        c.promise(6);
        c.due(FULL, x.cold(0, 0));
        c.due(BAD, x.cold(0, 501));
        c.promise(9);
        c.due(300, x.readings(0));
        c.promise(8);
        c.due(2143289344L, x.reading(0, 299));
        c.dueThrow(IndexOutOfBoundsException.class, x, 0, 300);
        c.dueThrow(IndexOutOfBoundsException.class, x, 0, Integer.MIN_VALUE);
        c.dueThrow(IndexOutOfBoundsException.class, x, 1, 0);
        x.probe(0, false);
        c.dueThrow(IllegalStateException.class, x, 0, 300);
        c.due(0, x.status());
    }

    private static void forms() {
        c.promise(8);
        BloodBank x = null;
        for (int tenths = -500; tenths <= 500; tenths++) {
            int k = (tenths + 500) % 200;
            if (k == 0) {
                x = new BloodBank();
                x.rack(0, 6);
                x.probe(0, true);
            }
            x.cold(0, tenths);
            c.due(Float.floatToIntBits(tenths / 10f), x.reading(0, k));
        }
    }

    private static void minutesInRacks() {
        c.promise(10);
        BloodBank x = new BloodBank();
        x.rack(0, 6);
        x.row(0, 3);
        x.take(0, 0, 1, 1, 1, 100);
        x.lay(0, 0, 0);
        c.due(1, x.minute());
        due(x, 0, 1, 0, 0);
        x.probe(0, true);
        c.due(2, x.minute());
        due(x, 0, 2, 0, 0);
        // the first reading is that of minute 1, which has passed, and so is this one's no reading
        x.cold(0, 500);
        c.due(3, x.minute());
        due(x, 0, 3, 0, 0);
        x.cold(0, 60);
        x.cold(0, 61);
        c.due(4, x.minute());
        due(x, 0, 3, 1, 0);
        x.cold(0, 60);
        c.due(5, x.minute());
        due(x, 0, 3, 0, 0);
        x.cold(0, 61);
        x.cold(0, 61);
        x.fails(0);
        x.cold(0, 61);
        x.minute();
        x.minute();
        due(x, 0, 3, 2, 0);
        x.minute();
        due(x, 0, 4, 0, 0);
        x.minute();
        due(x, 0, 4, 1, 0);
        // out and in again: what was read is gone, and the row of minutes goes on with a new first reading
        x.probe(0, false);
        x.probe(0, true);
        x.cold(0, 500);
        x.cold(0, 500);
        x.minute();
        due(x, 0, 4, 2, 0);
        c.due(11, x.minute());
        due(x, 0, 4, 3, 1);
        x.cold(0, -500);
        x.minute();
        due(x, 0, 4, 0, 1);
        c.due(12, x.count(3));
    }

    private static void due(BloodBank x, int bag, int unread, int row, int warm) {
        c.due(unread, x.told(bag, 11));
        c.due(row, x.told(bag, 12));
        c.due(warm, x.told(bag, 2));
    }

    private static void minutesByKinds() {
        c.promise(10);
        int[] marks = {60, 60, 80, 240, -180, 80, -180, 240};
        int[] spans = {3, 3, 5, 8, 2, 4, 4, 4};
        for (int above = 0; above <= 1; above++) {
            BloodBank x = new BloodBank();
            int[] bags = oneOfEachKind(x);
            for (int i = 0; i < bags.length; i++) {
                x.rack(0, 6);
                x.row(i, 1);
                x.probe(i, true);
                c.due(1, x.lay(bags[i], i, 0));
                for (int m = 0; m < 10; m++) {
                    x.cold(i, marks[i] + above);
                }
            }
            for (int m = 1; m <= 10; m++) {
                x.minute();
                for (int i = 0; i < bags.length; i++) {
                    due(x, bags[i], 0, above * m, m >= spans[i] ? above : 0);
                }
            }
        }
    }

    /** WHOLE, CELLS, PLASMA, PLATELETS, FROZEN; POOLS of PLASMA, of PLASMA and FROZEN, of PLATELETS. */
    private static int[] oneOfEachKind(BloodBank x) {
        int[] bags = new int[8];
        for (int kind = 0; kind < 4; kind++) {
            bags[kind] = x.take(0, kind, 1, 1, 0, 100);
        }
        bags[4] = frozen(x);
        bags[5] = pooled(x, 2, x.take(0, 2, 1, 1, 0, 100), x.take(0, 2, 1, 1, 0, 100));
        bags[6] = pooled(x, 2, x.take(0, 2, 1, 1, 0, 100), frozen(x));
        bags[7] = pooled(x, 3, x.take(0, 3, 1, 1, 0, 100), x.take(0, 3, 1, 1, 0, 100));
        return bags;
    }

    private static int frozen(BloodBank x) {
        return x.freeze(x.take(0, 2, 1, 1, 0, 100));
    }

    private static int pooled(BloodBank x, int kind, int one, int other) {
        x.tray(one);
        x.tray(other);
        return x.pool(kind);
    }

    private static void minutesOutOfRacks() {
        c.promise(10);
        BloodBank x = new BloodBank();
        x.patient(1, 0);
        x.rack(0, 6);
        x.row(0, 9);
        x.probe(0, true);
        for (int i = 0; i < 5; i++) {
            x.take(0, i < 3 ? 0 : 2, 1, 1, 0, 100);
            x.test(i, true);
            x.free(i);
            x.lay(i, 0, i);
        }
        x.cold(0, 500);
        x.minute();
        x.lift(0, 0, 6);
        x.give(1, 0);
        x.spoil(2);
        x.freeze(3);
        x.cold(0, 500);
        x.minute();
        due(x, 0, 1, 0, 0);
        due(x, 1, 1, 0, 0);
        due(x, 2, 0, 1, 0);
        due(x, 3, 0, 1, 0);
        due(x, 4, 0, 2, 0);
        due(x, 5, 1, 0, 0);
        x.lay(0, 0, 0);
        x.tray(4);
        x.tray(5);
        c.due(6, x.pool(2));
        x.cold(0, 500);
        x.minute();
        due(x, 0, 1, 1, 0);
        due(x, 1, 2, 0, 0);
        due(x, 4, 0, 2, 0);
        due(x, 5, 1, 0, 0);
        due(x, 6, 1, 0, 0);
    }

    private static void readingsAhead() {
        c.promise(10);
        BloodBank x = new BloodBank();
        x.rack(0, 0);
        x.rack(0, 0);
        for (int rack = 0; rack < 2; rack++) {
            x.row(rack, 1);
            x.probe(rack, true);
            x.take(0, 0, 1, 1, 0, 100);
            x.lay(rack, rack, 0);
        }
        for (int i = 0; i < 3; i++) {
            x.cold(0, 61);
        }
        x.minute();
        x.minute();
        due(x, 0, 0, 2, 0);
        due(x, 1, 2, 0, 0);
        x.minute();
        due(x, 0, 0, 3, 1);
        x.minute();
        due(x, 0, 1, 0, 1);
        due(x, 1, 4, 0, 0);
    }
}
