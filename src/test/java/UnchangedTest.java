import java.util.ArrayList;
import java.util.List;

/**
 * Section 4: what is refused changes nothing but status(), what is found nothing but status() and tries(), and both
 * only of acts. Every answer below 0 of every call is asked for once, and all that can be asked is asked before
 * (of a twin, made by the same calls) and behind it.
 */
public final class UnchangedTest {
    private static final int NONE = BloodBank.NONE, BAD = BloodBank.BAD, FULL = BloodBank.FULL;
    private static final int NO_ROW = BloodBank.NO_ROW, PLACE = BloodBank.PLACE, KIND = BloodBank.KIND,
        EMPTY = BloodBank.EMPTY, TAKEN = BloodBank.TAKEN, SIZE = BloodBank.SIZE, NOUGHT = BloodBank.NOUGHT,
        GONE = BloodBank.GONE, UNTESTED = BloodBank.UNTESTED, UNFREE = BloodBank.UNFREE, WARM = BloodBank.WARM,
        EXPIRED = BloodBank.EXPIRED, RECALLED = BloodBank.RECALLED, RESERVED = BloodBank.RESERVED,
        UNFIT = BloodBank.UNFIT, AS_IS = BloodBank.AS_IS;
    private static final int NO_ACT = -1;
    /** What the last act of the scene found: not 0, so that a call which sets the status to 0 is seen. */
    private static final int SCENE_STATUS = NOUGHT;
    private static final Check c = new Check("UnchangedTest");

    // the bags of the scene, by number
    private static final int FREE_CELLS = 0, LATE = 1, LYING = 2, SPOILT = 3, PLASMA = 4, SOURCE = 5, FROZEN = 6,
        AWAY = 7, WARMED = 8, RECALLED_ONE = 9, KEPT = 10, UNTOUCHED = 11, BAD_ONE = 12, ABROAD = 13, GOOD = 14;

    private interface Call {
        long ask(BloodBank x);
    }

    private interface Scene {
        BloodBank make();
    }

    public static void main(String[] args) {
        racksAndBags();
        actsWithRacks();
        actsWithBags();
        actsWithLateBags();
        pools();
        questions();
        full();
        fullOfReadings();
        readingsThatThrow();
        doneWithoutAct();
        doneByAct();
        c.end();
    }

    /** Racks: 0 with a row, a probe and a bag, 1 of bank 1, 2 without row and probe, 3 for CELLS. */
    private static BloodBank scene() {
        BloodBank x = new BloodBank();
        x.rack(0, 6);
        x.rack(1, 2);
        x.rack(0, 6);
        x.rack(0, 1);
        x.row(0, 4);
        x.row(1, 2);
        x.row(3, 1);
        x.patient(1, 0);
        x.patient(2, 0);
        x.patient(1, 0);
        Make.ready(x, Make.CELLS);
        int late = Make.bag(x, Make.PLATELETS);
        x.test(late, true);
        Make.pass(x, 40);
        x.probe(0, true);
        x.lay(Make.bag(x, Make.WHOLE), 0, 0);
        x.spoil(Make.bag(x, Make.WHOLE));
        Make.bag(x, Make.PLASMA);
        Make.bag(x, Make.FROZEN);
        x.give(Make.ready(x, Make.CELLS), 0);
        x.lay(Make.ready(x, Make.CELLS), 0, 3);
        for (int i = 0; i < 3; i++) {
            x.cold(0, 61);
            x.minute();
        }
        x.fails(0);
        x.take(0, 1, 9, 1, 0, 100);
        x.test(RECALLED_ONE, true);
        x.free(RECALLED_ONE);
        x.recall(9);
        x.reserve(Make.ready(x, Make.WHOLE), 2);
        Make.bag(x, Make.WHOLE);
        x.test(Make.bag(x, Make.WHOLE), false);
        x.take(1, 2, 3, 1, 0, 100);
        x.test(Make.bag(x, Make.CELLS), true);
        x.tray(PLASMA);
        x.share(UNTOUCHED, 0);
        return x;
    }

    /** All that can be asked, but tries and status. */
    private static List<Long> all(BloodBank x) {
        List<Long> all = new ArrayList<>();
        for (int what = 0; what < 5; what++) {
            all.add((long) x.count(what));
        }
        all.add(x.digest());
        all.add((long) x.locked());
        for (int bag = 0; bag < Math.min(x.count(1), 16); bag++) {
            all.add((long) x.kindOf(bag));
            all.add((long) x.state(bag));
            all.add((long) x.from(bag, 0));
            all.add((long) x.came(bag, 0));
        }
        for (int rack = 0; rack < x.count(0); rack++) {
            int places = x.places(rack);
            all.add((long) places);
            for (int place = 0; place < places; place++) {
                all.add((long) x.at(rack, place));
            }
            int readings = x.readings(rack);
            all.add((long) readings);
            for (int k = 0; k < Math.min(readings, 9); k++) {
                all.add(x.reading(rack, k));
            }
        }
        all.add((long) x.listed(0));
        all.add((long) x.listed(1));
        return all;
    }

    private static int[] tries(BloodBank x) {
        int[] tries = new int[14];
        for (int act = 0; act < 14; act++) {
            tries[act] = x.tries(act);
        }
        return tries;
    }

    private static void due(int want, int act, Call call) {
        due(want, act, UnchangedTest::scene, call);
    }

    private static void due(int want, int act, Scene scene, Call call) {
        BloodBank twin = scene.make();
        BloodBank x = scene.make();
        int statusBefore = x.status();
        c.due(want, call.ask(x));
        c.due(act == NO_ACT ? statusBefore : want, x.status());
        int[] before = tries(twin);
        if (act != NO_ACT && want < FULL) {
            before[act]++;
        }
        int[] behind = tries(x);
        for (int i = 0; i < 14; i++) {
            c.due(before[i], behind[i]);
        }
        c.due(all(twin).equals(all(x)), "nothing else is changed");
    }

    private static void racksAndBags() {
        c.saysInSection(4, "refused .. changing nothing; what is told with other calls than ACTS changes neither");
        BloodBank x = scene();
        c.due(SCENE_STATUS, x.status());
        c.due(15, x.count(1));
        due(NONE, NO_ACT, y -> y.rack(4, 0));
        due(BAD, NO_ACT, y -> y.rack(0, 7));
        due(NONE, NO_ACT, y -> y.row(4, 1));
        due(BAD, NO_ACT, y -> y.row(3, 21));
        due(TAKEN, NO_ACT, y -> y.row(0, 9));
        due(SIZE, NO_ACT, y -> y.row(3, -1));
        due(NONE, NO_ACT, y -> y.unrow(4));
        due(NO_ROW, NO_ACT, y -> y.unrow(2));
        due(TAKEN, NO_ACT, y -> y.unrow(0));
        due(NONE, NO_ACT, y -> y.probe(4, true));
        due(AS_IS, NO_ACT, y -> y.probe(0, true));
        due(AS_IS, NO_ACT, y -> y.probe(1, false));
        due(NONE, NO_ACT, y -> y.cold(4, 0));
        due(BAD, NO_ACT, y -> y.cold(0, 501));
        due(NO_ROW, NO_ACT, y -> y.cold(1, 0));
        due(NONE, NO_ACT, y -> y.fails(4));
        due(NO_ROW, NO_ACT, y -> y.fails(1));
        due(NONE, NO_ACT, y -> y.readings(4));
        due(NO_ROW, NO_ACT, y -> y.readings(1));
        due(BAD, NO_ACT, y -> y.patient(8, 0));
        due(BAD, NO_ACT, y -> y.patient(0, -1));
        due(NONE, NO_ACT, y -> y.take(4, 0, 0, 0, 0, 1));
        due(BAD, NO_ACT, y -> y.take(0, 4, 0, 0, 0, 1));
        due(BAD, NO_ACT, y -> y.take(0, 0, 0, 0, 0, 0));
        due(NONE, NO_ACT, y -> y.send(99, 1));
        due(NONE, NO_ACT, y -> y.send(PLASMA, 4));
        due(GONE, NO_ACT, y -> y.send(SPOILT, 1));
        due(AS_IS, NO_ACT, y -> y.send(LYING, 1));
        due(AS_IS, NO_ACT, y -> y.send(PLASMA, 0));
        due(NONE, NO_ACT, y -> y.tray(99));
        due(GONE, NO_ACT, y -> y.tray(SPOILT));
        due(AS_IS, NO_ACT, y -> y.tray(PLASMA));
        due(NONE, NO_ACT, y -> y.release(99));
        due(AS_IS, NO_ACT, y -> y.release(PLASMA));
        due(BAD, NO_ACT, y -> y.recall(100));
        due(BAD, NO_ACT, y -> y.recall(-1));
    }

    private static void actsWithRacks() {
        c.saysInSection(4, "FINDINGS .. change nothing but status() and tries()");
        due(NONE, 0, y -> y.lay(99, 0, 1));
        due(NONE, 0, y -> y.lay(PLASMA, 4, 1));
        due(BAD, 0, y -> y.lay(PLASMA, 1, 0));
        due(GONE, 0, y -> y.lay(SPOILT, 0, 1));
        due(AS_IS, 0, y -> y.lay(LYING, 0, 1));
        due(NO_ROW, 0, y -> y.lay(PLASMA, 2, 0));
        due(PLACE, 0, y -> y.lay(PLASMA, 0, 4));
        due(TAKEN, 0, y -> y.lay(PLASMA, 0, 0));
        due(KIND, 0, y -> y.lay(PLASMA, 3, 0));
        due(NONE, 1, y -> y.lift(4, 0, 6));
        due(BAD, 1, y -> y.lift(0, 0, 7));
        due(NO_ROW, 1, y -> y.lift(2, 0, 6));
        due(PLACE, 1, y -> y.lift(0, 4, 6));
        due(EMPTY, 1, y -> y.lift(0, 1, 6));
        due(KIND, 1, y -> y.lift(0, 0, 1));
        due(NONE, 2, y -> y.slide(4, 0, 1, 1));
        due(NO_ROW, 2, y -> y.slide(2, 0, 1, 1));
        due(PLACE, 2, y -> y.slide(0, 0, 4, 1));
        due(TAKEN, 2, y -> y.slide(0, 0, 2, 2));
        due(TAKEN, 2, y -> y.slide(0, 1, 0, 1));
    }

    private static void actsWithBags() {
        c.saysInSection(4, "refused .. changing nothing but status(); FINDINGS .. nothing but status() and tries()");
        due(NONE, 3, y -> y.test(99, true));
        due(GONE, 3, y -> y.test(SPOILT, true));
        due(AS_IS, 3, y -> y.test(FREE_CELLS, false));
        due(NONE, 4, y -> y.free(99));
        due(GONE, 4, y -> y.free(AWAY));
        due(UNTESTED, 4, y -> y.free(UNTOUCHED));
        due(AS_IS, 4, y -> y.free(BAD_ONE));
        due(EXPIRED, 4, y -> y.free(LATE));
        due(NONE, 5, y -> y.part(99));
        due(GONE, 5, y -> y.part(SPOILT));
        due(KIND, 5, y -> y.part(PLASMA));
        due(RESERVED, 5, y -> y.part(KEPT));
        due(NONE, 7, y -> y.freeze(99));
        due(GONE, 7, y -> y.freeze(SOURCE));
        due(KIND, 7, y -> y.freeze(LYING));
        due(AS_IS, 7, y -> y.freeze(FROZEN));
        due(NONE, 8, y -> y.thaw(99));
        due(GONE, 8, y -> y.thaw(SOURCE));
        due(KIND, 8, y -> y.thaw(PLASMA));
        due(NONE, 9, y -> y.reserve(99, 0));
        due(NONE, 9, y -> y.reserve(PLASMA, 3));
        due(GONE, 9, y -> y.reserve(SPOILT, 0));
        due(RESERVED, 9, y -> y.reserve(KEPT, 0));
        due(UNFIT, 9, y -> y.reserve(PLASMA, 1));
        due(NONE, 10, y -> y.give(99, 0));
        due(NONE, 10, y -> y.give(FREE_CELLS, 3));
        due(GONE, 10, y -> y.give(AWAY, 0));
        due(UNTESTED, 10, y -> y.give(LYING, 0));
        due(UNFREE, 10, y -> y.give(GOOD, 0));
        due(WARM, 10, y -> y.give(WARMED, 0));
        due(RECALLED, 10, y -> y.give(RECALLED_ONE, 0));
        due(RESERVED, 10, y -> y.give(KEPT, 0));
        due(UNFIT, 10, y -> y.give(FREE_CELLS, 1));
        due(NONE, 11, y -> y.home(99));
        due(AS_IS, 11, y -> y.home(LYING));
        due(NONE, 12, y -> y.spoil(99));
        due(GONE, 12, y -> y.spoil(AWAY));
        due(NONE, 13, y -> y.share(99, 1));
        due(BAD, 13, y -> y.share(PLASMA, -1));
        due(GONE, 13, y -> y.share(SPOILT, 1));
        due(NOUGHT, 13, y -> y.share(PLASMA, 0));
    }

    /** The scene, and then what makes the finding possible. */
    private static void dueBehind(Call preparing, int want, int act, Call call) {
        due(want, act, () -> {
            BloodBank x = scene();
            preparing.ask(x);
            return x;
        }, call);
    }

    /** EXPIRED of thaw() is not among these: a FROZEN outlives the 512 calls of an object. */
    private static void actsWithLateBags() {
        c.saysInSection(4, "FINDINGS .. change nothing but status() and tries()");
        Call recalling = y -> y.recall(1);
        Call waiting = y -> {
            Make.pass(y, 160);
            return 0;
        };
        due(AS_IS, 4, y -> y.free(FREE_CELLS));
        dueBehind(recalling, RECALLED, 4, y -> y.free(GOOD));
        dueBehind(y -> {
            int bag = Make.bag(y, Make.WHOLE);
            y.test(bag, true);
            Make.warm(y, bag);
            return bag;
        }, WARM, 4, y -> y.free(15));
        dueBehind(waiting, EXPIRED, 5, y -> y.part(LYING));
        dueBehind(recalling, RECALLED, 5, y -> y.part(LYING));
        dueBehind(y -> y.reserve(PLASMA, 0), RESERVED, 7, y -> y.freeze(PLASMA));
        dueBehind(waiting, EXPIRED, 7, y -> y.freeze(PLASMA));
        dueBehind(recalling, RECALLED, 7, y -> y.freeze(PLASMA));
        dueBehind(y -> y.reserve(FROZEN, 0), RESERVED, 8, y -> y.thaw(FROZEN));
        dueBehind(recalling, RECALLED, 8, y -> y.thaw(FROZEN));
        dueBehind(waiting, EXPIRED, 10, y -> y.give(FREE_CELLS, 0));
    }

    private static void pools() {
        c.says(22, "BAD .. EMPTY; GONE; KIND; AS_IS; RESERVED; EXPIRED; RECALLED: changing nothing");
        due(BAD, 6, y -> y.pool(4));
        due(EMPTY, 6, y -> y.pool(2));
        dueBehind(y -> y.tray(FROZEN) + y.tray(UNTOUCHED), KIND, 6, y -> y.pool(2));
        dueBehind(y -> y.tray(FROZEN) + y.tray(ABROAD), AS_IS, 6, y -> y.pool(2));
        dueBehind(y -> y.tray(FROZEN) + y.spoil(FROZEN), GONE, 6, y -> y.pool(2));
        dueBehind(y -> y.tray(FROZEN) + y.reserve(FROZEN, 0), RESERVED, 6, y -> y.pool(2));
        dueBehind(y -> y.tray(FROZEN) + y.recall(1), RECALLED, 6, y -> y.pool(2));
        dueBehind(y -> y.untray() + y.tray(LATE) + y.tray(PLASMA), EXPIRED, 6, y -> y.pool(3));
    }

    private static void questions() {
        c.saysInSection(4, "what is told with other calls than ACTS changes neither status() nor tries()");
        due(NONE, NO_ACT, y -> y.listed(0));
        due(NONE, NO_ACT, y -> y.kindOf(99));
        due(NONE, NO_ACT, y -> y.state(99));
        due(NONE, NO_ACT, y -> y.told(99, 0));
        due(BAD, NO_ACT, y -> y.told(0, 17));
        due(NONE, NO_ACT, y -> y.bodies(99, 0));
        due(BAD, NO_ACT, y -> y.bodies(0, 7));
        due(NONE, NO_ACT, y -> y.came(0, 0));
        due(NONE, NO_ACT, y -> y.from(0, 0));
        due(NONE, NO_ACT, y -> y.at(4, 0));
        due(NO_ROW, NO_ACT, y -> y.at(2, 0));
        due(PLACE, NO_ACT, y -> y.at(0, 4));
        due(EMPTY, NO_ACT, y -> y.at(0, 1));
        due(NONE, NO_ACT, y -> y.places(4));
        due(NO_ROW, NO_ACT, y -> y.places(2));
        due(NONE, NO_ACT, y -> y.fits(99, 0));
        due(NONE, NO_ACT, y -> y.fits(0, 3));
        due(0, NO_ACT, y -> y.fits(0, 1));
        due(NONE, NO_ACT, y -> y.match(3, 0));
        due(BAD, NO_ACT, y -> y.match(0, 6));
        due(EMPTY, NO_ACT, y -> y.match(0, 5));
        due(FREE_CELLS, NO_ACT, y -> y.match(0, 1));
        due(NONE, NO_ACT, y -> y.stock(4, 0));
        due(BAD, NO_ACT, y -> y.stock(0, 7));
        due(11, NO_ACT, y -> y.stock(0, 6));
        due(BAD, NO_ACT, y -> y.tries(14));
        due(BAD, NO_ACT, y -> y.count(5));
    }

    /** 12 racks, 40 patients, 200 bags, 6 on the tray. */
    private static BloodBank fullScene() {
        BloodBank x = new BloodBank();
        for (int i = 0; i < 12; i++) {
            x.rack(0, 6);
        }
        x.row(0, 1);
        for (int i = 0; i < 40; i++) {
            x.patient(1, 0);
        }
        Make.bag(x, Make.FROZEN);
        Make.bag(x, Make.WHOLE);
        Make.bags(x, Make.PLASMA, 200);
        x.lay(2, 0, 0);
        for (int i = 0; i < 6; i++) {
            x.tray(10 + i);
        }
        x.share(2, 0);
        return x;
    }

    private static void full() {
        c.saysInSection(4, "FULL there is no room: changing nothing but status(), of ACTS");
        due(FULL, NO_ACT, UnchangedTest::fullScene, y -> y.rack(0, 0));
        due(FULL, NO_ACT, UnchangedTest::fullScene, y -> y.patient(0, 0));
        due(FULL, NO_ACT, UnchangedTest::fullScene, y -> y.take(0, 0, 0, 0, 0, 1));
        due(FULL, NO_ACT, UnchangedTest::fullScene, y -> y.tray(20));
        due(FULL, 5, UnchangedTest::fullScene, y -> y.part(2));
        due(FULL, 6, UnchangedTest::fullScene, y -> y.pool(2));
        due(FULL, 7, UnchangedTest::fullScene, y -> y.freeze(3));
        due(FULL, 8, UnchangedTest::fullScene, y -> y.thaw(1));
    }

    private static BloodBank sceneOfReadings() {
        BloodBank x = new BloodBank();
        Make.rack(x, 1);
        x.probe(0, true);
        for (int i = 0; i < 300; i++) {
            x.cold(0, i);
        }
        x.share(0, 0);
        return x;
    }

    private static void fullOfReadings() {
        c.saysInSection(4, "FULL there is no room: changing nothing");
        due(FULL, NO_ACT, UnchangedTest::sceneOfReadings, y -> y.cold(0, 0));
        due(FULL, NO_ACT, UnchangedTest::sceneOfReadings, y -> y.fails(0));
    }

    private static void readingsThatThrow() {
        c.says(8, "IndexOutOfBoundsException .. IllegalStateException: nothing is changed by them");
        int[][] asked = {{4, 0}, {-1, 0}, {1, 0}, {0, 4}, {0, -1}};
        for (int[] a : asked) {
            due(7, NO_ACT, y -> {
                try {
                    return y.reading(a[0], a[1]);
                } catch (IndexOutOfBoundsException | IllegalStateException e) {
                    return 7;
                }
            });
        }
    }

    private static void dueDone(long want, Call call) {
        BloodBank twin = scene();
        BloodBank x = scene();
        c.due(want, call.ask(x));
        c.due(SCENE_STATUS, x.status());
        int[] before = tries(twin);
        int[] behind = tries(x);
        for (int i = 0; i < 14; i++) {
            c.due(before[i], behind[i]);
        }
    }

    private static void doneWithoutAct() {
        c.says(46, "what the latest ACT was refused with, or found: not what other calls were");
        dueDone(4, y -> y.rack(0, 0));
        dueDone(1, y -> y.row(2, 3));
        dueDone(1, y -> y.unrow(3));
        dueDone(1, y -> y.probe(0, false));
        dueDone(1, y -> y.probe(1, true));
        dueDone(5, y -> y.cold(0, 3));
        dueDone(5, y -> y.fails(0));
        dueDone(2143289344L, y -> y.reading(0, 3));
        dueDone(4, y -> y.readings(0));
        dueDone(44, y -> y.minute());
        dueDone(3, y -> y.patient(0, 0));
        dueDone(15, y -> y.take(0, 0, 0, 0, 0, 1));
        dueDone(1, y -> y.send(PLASMA, 2));
        dueDone(2, y -> y.tray(FROZEN));
        dueDone(1, y -> y.untray());
        dueDone(1, y -> y.release(KEPT));
        dueDone(1, y -> y.recall(3));
        dueDone(0, y -> y.recall(77));
    }

    private static void dueDone(int act, long want, Call call) {
        BloodBank x = scene();
        int before = x.tries(act);
        c.due(want, call.ask(x));
        c.due(0, x.status());
        c.due(before + 1, x.tries(act));
        c.due(0, x.locked());
    }

    private static void doneByAct() {
        c.says(46, "0 if it was done");
        dueDone(0, 1, y -> y.lay(PLASMA, 0, 1));
        dueDone(1, LYING, y -> y.lift(0, 0, 0));
        dueDone(2, 1, y -> y.slide(0, 0, 1, 1));
        dueDone(2, 0, y -> y.slide(0, 0, 1, 0));
        dueDone(3, 1, y -> y.test(LYING, false));
        dueDone(4, 1, y -> y.free(GOOD));
        dueDone(5, 15, y -> y.part(LYING));
        dueDone(7, 15, y -> y.freeze(PLASMA));
        dueDone(8, 15, y -> y.thaw(FROZEN));
        dueDone(9, 1, y -> y.reserve(LYING, 2));
        dueDone(10, 1, y -> y.give(FREE_CELLS, 2));
        dueDone(11, 1, y -> y.home(AWAY));
        dueDone(12, 1, y -> y.spoil(LYING));
        dueDone(13, 50, y -> y.share(LYING, 2));
        dueDone(13, 0, y -> y.share(LYING, 101));
        dueDone(6, 15, y -> {
            y.tray(FROZEN);
            return y.pool(2);
        });
        dueDone(11, 0, y -> {
            Make.pass(y, 9);
            return y.home(AWAY);
        });
    }
}
