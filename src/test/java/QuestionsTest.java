/** Promises 33 to 49: questions, and clear(). fits() and bodies() are asked in BagsTest, too. */
public final class QuestionsTest {
    private static final int NONE = BloodBank.NONE, BAD = BloodBank.BAD;
    private static final int NO_ROW = BloodBank.NO_ROW, PLACE = BloodBank.PLACE, EMPTY = BloodBank.EMPTY;
    private static final int FAR = Integer.MAX_VALUE, DEEP = Integer.MIN_VALUE;
    private static final int[] NO_BAGS = {-1, 200, FAR, DEEP};
    private static final Check c = new Check("QuestionsTest");

    public static void main(String[] args) {
        wrongNumbers();
        kindsAndStates();
        family();
        placesAndBags();
        matching();
        matchingAsGive();
        stocks();
        counts();
        digests();
        clearing();
        fullHouse();
        c.end();
    }

    private static void wrongNumbers() {
        BloodBank x = new BloodBank();
        x.patient(0, 0);
        x.rack(0, 6);
        x.take(0, 0, 0, 0, 0, 1);
        for (int wrong : NO_BAGS) {
            c.promise(33);
            c.due(NONE, x.kindOf(wrong));
            c.promise(34);
            c.due(NONE, x.state(wrong));
            c.promise(35);
            c.due(NONE, x.told(wrong, 0));
            c.due(NONE, x.told(wrong, 17));
            c.due(BAD, x.told(0, wrong));
            c.promise(36);
            c.due(NONE, x.bodies(wrong, 7));
            c.due(BAD, x.bodies(0, wrong));
            c.promise(37);
            c.due(NONE, x.came(wrong, 0));
            c.due(NONE, x.came(0, wrong));
            c.promise(38);
            c.due(NONE, x.from(wrong, 0));
            c.due(NONE, x.from(0, wrong));
            c.promise(39);
            c.due(NONE, x.at(wrong, 0));
            c.promise(40);
            c.due(NONE, x.places(wrong));
            c.promise(41);
            c.due(NONE, x.fits(wrong, 0));
            c.due(NONE, x.fits(0, wrong));
            c.promise(42);
            c.due(NONE, x.match(wrong, 0));
            c.due(NONE, x.match(wrong, 9));
            c.due(BAD, x.match(0, wrong));
            c.promise(43);
            c.due(NONE, x.stock(wrong, 0));
            c.due(NONE, x.stock(wrong, 9));
            c.due(BAD, x.stock(0, wrong));
            c.promise(44);
            c.due(BAD, x.tries(wrong));
            c.promise(47);
            c.due(BAD, x.count(wrong));
        }
        c.promise(35);
        c.due(BAD, x.told(0, 17));
        c.due(-9, x.told(0, 16));
        c.due(NONE, x.told(1, 0));
        c.promise(42);
        c.due(BAD, x.match(0, 6));
        c.due(NONE, x.match(1, 0));
        c.promise(43);
        c.due(NONE, x.stock(4, 0));
        c.due(BAD, x.stock(0, 7));
        c.promise(47);
        c.due(BAD, x.count(5));
        c.promise(46);
        c.due(0, x.status());
    }

    private static void kindsAndStates() {
        BloodBank x = new BloodBank();
        x.patient(1, 0);
        x.rack(0, 6);
        x.row(0, 5);
        int whole = x.take(0, 0, 1, 1, 0, 500);
        c.promise(34);
        c.due(0, x.state(whole));
        x.lay(whole, 0, 3);
        c.due(1, x.state(whole));
        int cells = x.part(whole);
        c.due(3, x.state(whole));
        x.test(cells, true);
        x.free(cells);
        x.give(cells, 0);
        c.due(2, x.state(cells));
        x.home(cells);
        c.due(0, x.state(cells));
        x.spoil(cells);
        c.due(5, x.state(cells));
        x.tray(cells + 2);
        x.tray(x.take(0, 3, 1, 1, 0, 5));
        int pool = x.pool(3);
        c.due(4, x.state(cells + 2));
        c.due(4, x.state(pool - 1));
        int frozen = x.freeze(cells + 1);
        c.due(3, x.state(cells + 1));
        c.promise(33);
        int[] kinds = {0, 1, 2, 3, 3, 5, 4};
        for (int i = 0; i < kinds.length; i++) {
            c.due(kinds[i], x.kindOf(i));
        }
        c.due(2, x.kindOf(x.thaw(frozen)));
    }

    private static void family() {
        BloodBank x = new BloodBank();
        int first = x.take(0, 0, 1, 1, 0, 500);
        int second = x.take(0, 0, 2, 1, 0, 500);
        int partsOfSecond = x.part(second);
        int partsOfFirst = x.part(first);
        c.promise(37);
        for (int k = 0; k < 3; k++) {
            c.due(partsOfSecond + k, x.came(second, k));
            c.due(partsOfFirst + k, x.came(first, k));
        }
        c.due(NONE, x.came(first, 3));
        c.due(NONE, x.came(first, -1));
        c.due(NONE, x.came(partsOfFirst, 0));
        x.tray(partsOfFirst + 1);
        x.tray(partsOfSecond + 1);
        int pool = x.pool(2);
        c.due(pool, x.came(partsOfFirst + 1, 0));
        c.due(pool, x.came(partsOfSecond + 1, 0));
        c.due(NONE, x.came(partsOfSecond + 1, 1));
        c.promise(38);
        c.due(partsOfFirst + 1, x.from(pool, 0));
        c.due(partsOfSecond + 1, x.from(pool, 1));
        c.due(NONE, x.from(pool, 2));
        c.due(NONE, x.from(pool, -1));
        c.due(NONE, x.from(pool, 6));
        c.due(first, x.from(partsOfFirst + 2, 0));
        c.due(NONE, x.from(partsOfFirst + 2, 1));
        c.due(NONE, x.from(first, 0));
    }

    private static void placesAndBags() {
        BloodBank x = new BloodBank();
        x.rack(0, 6);
        c.promise(39);
        c.due(NONE, x.at(1, 0));
        c.due(NO_ROW, x.at(0, -1));
        c.promise(40);
        c.due(NONE, x.places(1));
        c.due(NO_ROW, x.places(0));
        x.row(0, 3);
        c.due(3, x.places(0));
        c.promise(39);
        c.due(PLACE, x.at(0, -1));
        c.due(PLACE, x.at(0, 3));
        c.due(PLACE, x.at(0, DEEP));
        c.due(PLACE, x.at(0, FAR));
        c.due(EMPTY, x.at(0, 0));
        x.take(0, 0, 1, 1, 0, 5);
        x.take(0, 0, 1, 1, 0, 5);
        x.lay(1, 0, 2);
        c.due(1, x.at(0, 2));
        c.due(EMPTY, x.at(0, 1));
        c.due(0, x.status());
    }

    private static int ready(BloodBank x, int kind, int group) {
        int bag = x.take(0, kind, 1, group, 0, 100);
        x.test(bag, true);
        x.free(bag);
        return bag;
    }

    private static void matching() {
        c.promise(42);
        BloodBank x = new BloodBank();
        x.patient(1, 0);
        x.patient(3, 0);
        c.due(EMPTY, x.match(0, 2));
        int longest = x.freeze(x.take(0, 2, 1, 3, 0, 100));
        x.test(longest, true);
        x.free(longest);
        c.due(longest, x.match(0, 2));
        c.due(longest, x.match(0, 4));
        x.minute();
        int later = ready(x, 2, 3);
        int same = ready(x, 2, 3);
        c.due(later, x.match(0, 2));
        c.due(longest, x.match(0, 4));
        int narrow = ready(x, 2, 1);
        x.spoil(later);
        c.due(same, x.match(0, 2));
        x.reserve(same, 1);
        c.due(narrow, x.match(0, 2));
        c.due(same, x.match(1, 2));
        x.give(same, 1);
        c.due(longest, x.match(1, 2));
        c.due(EMPTY, x.match(0, 0));
        c.due(EMPTY, x.match(0, 5));
        int tries = x.tries(10);
        c.due(narrow, x.match(0, 2));
        c.due(tries, x.tries(10));
        // an early one with a higher number goes ahead of a late one
        int cells = ready(x, 1, 1);
        c.due(cells, x.match(0, 1));
        BloodBank y = new BloodBank();
        y.patient(1, 0);
        int frozen = y.freeze(y.take(0, 2, 1, 1, 0, 100));
        int plasma = y.take(0, 2, 1, 1, 0, 100);
        for (int bag = frozen; bag <= plasma; bag++) {
            y.test(bag, true);
            y.free(bag);
        }
        c.due(plasma, y.match(0, 2));
        for (int m = 0; m < 89; m++) {
            y.minute();
        }
        c.due(plasma, y.match(0, 2));
        y.minute();
        c.due(frozen, y.match(0, 2));
        y.recall(1);
        c.due(EMPTY, y.match(0, 2));
    }

    /** Whatever the state of a lone bag, match() names it just when give() then gives it. */
    private static void matchingAsGive() {
        c.promise(42);
        for (int how = 0; how < 128; how++) {
            BloodBank x = new BloodBank();
            x.patient(how % 2 == 0 ? 1 : 2, 0);
            x.patient(1, 0);
            x.take(0, 1, 1, 1, 0, 100);
            if ((how & 2) == 0) {
                x.test(0, true);
            }
            if ((how & 4) == 0) {
                x.free(0);
            }
            if ((how & 8) != 0) {
                x.recall(1);
            }
            if ((how & 16) != 0) {
                x.reserve(0, 1);
            }
            if ((how & 32) != 0) {
                x.reserve(0, 0);
            }
            if ((how & 64) != 0) {
                x.spoil(0);
            }
            int match = x.match(0, 1);
            c.due(x.give(0, 0) == 1 ? 0 : EMPTY, match);
        }
    }

    private static void stocks() {
        c.promise(43);
        BloodBank x = new BloodBank();
        x.patient(1, 0);
        x.rack(0, 6);
        x.row(0, 5);
        int whole = ready(x, 0, 1);
        int plasma = x.take(0, 2, 1, 1, 0, 100);
        int frozen = x.freeze(x.take(0, 2, 1, 1, 0, 100));
        x.take(1, 2, 1, 1, 0, 100);
        x.lay(whole, 0, 0);
        x.lay(frozen, 0, 1);
        int[] due = {1, 0, 2, 0, 1, 0, 3};
        for (int kind = 0; kind <= 6; kind++) {
            c.due(due[kind], x.stock(0, kind));
        }
        c.due(1, x.stock(1, 6));
        c.due(0, x.stock(2, 6));
        x.give(whole, 0);
        c.due(0, x.stock(0, 0));
        x.home(whole);
        c.due(1, x.stock(0, 0));
        x.tray(plasma);
        x.tray(frozen);
        x.pool(2);
        int[] then = {1, 0, 0, 0, 0, 1, 2};
        for (int kind = 0; kind <= 6; kind++) {
            c.due(then[kind], x.stock(0, kind));
        }
        x.spoil(whole);
        c.due(1, x.stock(0, 6));
    }

    private static void counts() {
        c.promise(47);
        BloodBank x = new BloodBank();
        x.rack(0, 0);
        x.take(0, 0, 1, 1, 1, 1);
        x.take(0, 0, 1, 1, 1, 1);
        for (int i = 0; i < 3; i++) {
            x.patient(0, 0);
        }
        for (int i = 0; i < 4; i++) {
            x.minute();
        }
        x.tray(0);
        int[] due = {1, 2, 3, 4, 1};
        for (int what = 0; what < 5; what++) {
            c.due(due[what], x.count(what));
        }
        x.spoil(1);
        c.due(2, x.count(1));
    }

    private static void digests() {
        c.promise(48);
        BloodBank x = new BloodBank();
        c.due(7, x.digest());
        x.rack(0, 0);
        x.patient(0, 0);
        c.due(7, x.digest());
        for (int i = 0; i < 9; i++) {
            x.take(i % 4, i % 4, i, i % 8, i, 500 + i);
            x.part(i);
            x.minute();
            if (i % 8 == 0) {
                c.due(digestByWords(x), x.digest());
            }
        }
    }

    private static long digestByWords(BloodBank x) {
        long h = 7;
        for (int bag = 0; bag < x.count(1); bag++) {
            for (int what = 0; what <= 16; what++) {
                h = 31 * h + x.told(bag, what);
            }
        }
        return h;
    }

    private static void clearing() {
        c.promise(49);
        BloodBank x = new BloodBank();
        c.due(0, x.clear());
        fill(x);
        c.due(11, x.clear());
        for (int what = 0; what < 5; what++) {
            c.due(0, x.count(what));
        }
        for (int act = 0; act < 14; act++) {
            c.due(0, x.tries(act));
        }
        c.due(0, x.status());
        c.due(7, x.digest());
        c.due(NONE, x.listed(0));
        c.due(NONE, x.kindOf(0));
        c.due(NONE, x.places(0));
        c.due(NONE, x.fits(0, 0));
        c.due(0, x.untray());
        c.due(0, x.clear());
        // nothing of what was is left in what comes
        c.due(0, x.rack(1, 2));
        c.due(NO_ROW, x.places(0));
        c.due(NO_ROW, x.readings(0));
        x.row(0, 5);
        for (int place = 0; place < 5; place++) {
            c.due(EMPTY, x.at(0, place));
        }
        c.due(1, x.probe(0, true));
        c.due(0, x.readings(0));
        for (int bag = 0; bag < 11; bag++) {
            x.take(1, 2, 9, 1, 1, 10);
            int[] told = {0, 0, 0, 0, -9, 9, 1, 1, 10, 0, 90, 0, 0, 1, -9, -9, -9};
            for (int what = 0; what < told.length; what++) {
                c.due(told[what], x.told(bag, what));
            }
            c.due(0, x.state(bag));
            c.due(NONE, x.from(bag, 0));
            c.due(NONE, x.from(bag, 1));
            c.due(NONE, x.came(bag, 0));
        }
        x.clear();
        fill(x);
        BloodBank y = new BloodBank();
        fill(y);
        c.due(y.digest(), x.digest());
        c.due(y.listed(0), x.listed(0));
    }

    /** With all numbers given out, what walks over all of them comes to its end. */
    private static void fullHouse() {
        BloodBank x = new BloodBank();
        for (int i = 0; i < 12; i++) {
            x.rack(0, 6);
            x.row(i, 20);
        }
        for (int i = 0; i < 40; i++) {
            x.patient(0, 0);
        }
        for (int i = 0; i < 200; i++) {
            x.take(0, 1, 1, 0, 0, 1);
            x.lay(i, i / 20, i % 20);
        }
        c.promise(10);
        c.due(1, x.minute());
        c.due(1, x.told(199, 11));
        c.promise(43);
        c.due(200, x.stock(0, 6));
        c.promise(45);
        c.due(0, x.locked());
        c.promise(16);
        c.due(20, x.slide(9, 0, 0, 20));
        c.promise(37);
        c.due(NONE, x.came(199, 0));
        c.promise(42);
        c.due(EMPTY, x.match(39, 1));
        x.test(199, true);
        x.free(199);
        c.due(199, x.match(39, 1));
        c.promise(31);
        c.due(200, x.recall(1));
        c.promise(49);
        c.due(200, x.clear());
    }

    private static void fill(BloodBank x) {
        x.patient(1, 0);
        x.rack(0, 6);
        x.row(0, 5);
        x.probe(0, true);
        for (int bag = 0; bag < 6; bag++) {
            x.take(0, bag % 2 == 0 ? 1 : 3, bag, 1, 0, 100);
            x.test(bag, true);
            x.free(bag);
            x.lay(bag, 0, bag);
        }
        for (int m = 0; m < 3; m++) {
            x.cold(0, 500);
            x.minute();
        }
        x.give(1, 0);
        x.reserve(3, 0);
        x.recall(1);
        x.recall(0);
        x.recall(1);
        x.release(3);
        x.tray(3);
        x.tray(5);
        x.send(5, 0);
        x.pool(3);
        x.reserve(6, 0);
        x.tray(0);
        x.part(x.take(0, 0, 1, 1, 0, 500));
        x.spoil(99);
    }
}
