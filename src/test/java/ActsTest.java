/** Promises 14 to 32: acts and what stands among them; and section 4: refusals, findings, tries, locks, status. */
public final class ActsTest {
    private static final int NONE = BloodBank.NONE, BAD = BloodBank.BAD, FULL = BloodBank.FULL;
    private static final int NO_ROW = BloodBank.NO_ROW, PLACE = BloodBank.PLACE, KIND = BloodBank.KIND,
        EMPTY = BloodBank.EMPTY, TAKEN = BloodBank.TAKEN, NOUGHT = BloodBank.NOUGHT, GONE = BloodBank.GONE,
        UNTESTED = BloodBank.UNTESTED, UNFREE = BloodBank.UNFREE, WARM = BloodBank.WARM,
        EXPIRED = BloodBank.EXPIRED, RECALLED = BloodBank.RECALLED, RESERVED = BloodBank.RESERVED,
        UNFIT = BloodBank.UNFIT, AS_IS = BloodBank.AS_IS;
    private static final int FAR = Integer.MAX_VALUE, DEEP = Integer.MIN_VALUE;
    private static final int WHOLE = 0, CELLS = 1, PLASMA = 2, PLATELETS = 3, FROZEN = 4, POOL = 5, ALL = 6;
    private static final Check c = new Check("ActsTest");

    public static void main(String[] args) {
        laying();
        layingByKinds();
        lifting();
        sliding();
        slidingByWords();
        testing();
        freeing();
        parting();
        partingFull();
        trays();
        pooling();
        poolingGroups();
        poolingTests();
        poolFindings();
        freezing();
        thawing();
        reserving();
        releasing();
        giving();
        comingHome();
        spoiling();
        sharing();
        recalling();
        listing();
        bookkeeping();
        c.end();
    }

    /** The act was refused: no try, status as answered. Last argument: the answer. */
    private static void refused(BloodBank x, int want, int act, int triesBefore, int got) {
        c.due(want, got);
        c.due(want, x.status());
        c.due(triesBefore, x.tries(act));
        c.due(0, x.locked());
    }

    /** Something was found or the act was done: one try more, unlocked. */
    private static void tried(BloodBank x, int want, int act, int triesBefore, int got) {
        c.due(want, got);
        c.due(Math.min(want, 0), x.status());
        c.due(triesBefore + 1, x.tries(act));
        c.due(0, x.locked());
    }

    private static int takeOf(BloodBank x, int kind) {
        return x.take(0, kind, 1, 1, 0, 100);
    }

    private static int frozen(BloodBank x) {
        return x.freeze(takeOf(x, PLASMA));
    }

    private static int poolOf(BloodBank x, int kind) {
        x.untray();
        x.tray(takeOf(x, kind));
        x.tray(takeOf(x, kind));
        return x.pool(kind);
    }

    private static int ready(BloodBank x, int kind) {
        int bag = takeOf(x, kind);
        x.test(bag, true);
        x.free(bag);
        return bag;
    }

    private static void pass(BloodBank x, int minutes) {
        for (int i = 0; i < minutes; i++) {
            x.minute();
        }
    }

    /** Lays a bag into place 0 of a new rack, warms it for its span, and lifts it. */
    private static void warm(BloodBank x, int bag) {
        int rack = x.rack(x.told(bag, 13), ALL);
        x.row(rack, 1);
        x.probe(rack, true);
        x.lay(bag, rack, 0);
        for (int i = x.bodies(bag, 1); i > 0; i--) {
            x.cold(rack, 500);
            x.minute();
        }
        x.lift(rack, 0, ALL);
        c.due(1, x.told(bag, 2));
    }

    private static void laying() {
        c.promise(14);
        BloodBank x = new BloodBank();
        x.rack(0, PLASMA);
        x.rack(1, ALL);
        x.rack(0, ALL);
        int bag = takeOf(x, WHOLE);
        refused(x, NONE, 0, 0, x.lay(1, 0, 0));
        refused(x, NONE, 0, 0, x.lay(-1, 0, 0));
        refused(x, NONE, 0, 0, x.lay(0, 3, 0));
        refused(x, NONE, 0, 0, x.lay(0, -1, 0));
        refused(x, BAD, 0, 0, x.lay(0, 1, 0));
        tried(x, NO_ROW, 0, 0, x.lay(0, 0, 0));
        tried(x, NO_ROW, 0, 1, x.lay(0, 0, -1));
        x.row(0, 3);
        x.row(1, 3);
        x.row(2, 0);
        tried(x, PLACE, 0, 2, x.lay(0, 0, 3));
        tried(x, PLACE, 0, 3, x.lay(0, 0, -1));
        tried(x, PLACE, 0, 4, x.lay(0, 0, FAR));
        tried(x, PLACE, 0, 5, x.lay(0, 0, DEEP));
        tried(x, PLACE, 0, 6, x.lay(0, 2, 0));
        tried(x, KIND, 0, 7, x.lay(0, 0, 0));
        int plasma = takeOf(x, PLASMA);
        tried(x, 1, 0, 8, x.lay(plasma, 0, 0));
        c.due(plasma, x.at(0, 0));
        c.due(1, x.state(plasma));
        c.due(0, x.told(plasma, 14));
        c.due(0, x.told(plasma, 15));
        tried(x, TAKEN, 0, 9, x.lay(bag, 0, 0));
        tried(x, AS_IS, 0, 10, x.lay(plasma, 0, 9));
        tried(x, AS_IS, 0, 11, x.lay(plasma, 0, 0));
        refused(x, BAD, 0, 12, x.lay(plasma, 1, 0));
        x.spoil(plasma);
        tried(x, GONE, 0, 12, x.lay(plasma, 0, 9));
        refused(x, BAD, 0, 13, x.lay(plasma, 1, 0));
        x.row(2, 20);
        tried(x, 1, 0, 13, x.lay(bag, 2, 19));
        c.due(2, x.told(bag, 14));
        c.due(19, x.told(bag, 15));
    }

    private static void layingByKinds() {
        c.promise(14);
        for (int rackKind = 0; rackKind <= ALL; rackKind++) {
            BloodBank x = new BloodBank();
            x.rack(0, rackKind);
            x.row(0, 6);
            for (int kind = 0; kind < 6; kind++) {
                int bag = kind == FROZEN ? frozen(x) : kind == POOL ? poolOf(x, PLASMA) : takeOf(x, kind);
                boolean goes = rackKind == ALL || rackKind == kind || kind == FROZEN && rackKind == PLASMA;
                c.due(goes ? 1 : KIND, x.lay(bag, 0, kind));
                c.due(goes ? bag : EMPTY, x.at(0, kind));
                c.due(goes ? 1 : 0, x.state(bag));
            }
        }
    }

    private static void lifting() {
        c.promise(15);
        BloodBank x = new BloodBank();
        x.rack(0, ALL);
        refused(x, NONE, 1, 0, x.lift(1, 0, 7));
        refused(x, NONE, 1, 0, x.lift(-1, 0, ALL));
        refused(x, BAD, 1, 0, x.lift(0, 0, 7));
        refused(x, BAD, 1, 0, x.lift(0, 0, -1));
        tried(x, NO_ROW, 1, 0, x.lift(0, -1, ALL));
        x.row(0, 6);
        tried(x, PLACE, 1, 1, x.lift(0, 6, ALL));
        tried(x, PLACE, 1, 2, x.lift(0, -1, ALL));
        tried(x, EMPTY, 1, 3, x.lift(0, 5, ALL));
        int tries = 4;
        for (int kind = 0; kind < 6; kind++) {
            int bag = kind == FROZEN ? frozen(x) : kind == POOL ? poolOf(x, PLASMA) : takeOf(x, kind);
            for (int asked = 0; asked <= ALL; asked++) {
                boolean is = asked == ALL || asked == kind || kind == FROZEN && asked == PLASMA;
                x.lay(bag, 0, kind);
                tried(x, is ? bag : KIND, 1, tries++, x.lift(0, kind, asked));
                c.due(is ? EMPTY : bag, x.at(0, kind));
                c.due(is ? 0 : 1, x.state(bag));
                c.due(is ? -9 : 0, x.told(bag, 14));
                c.due(is ? -9 : kind, x.told(bag, 15));
            }
        }
    }

    private static void sliding() {
        c.promise(16);
        BloodBank x = new BloodBank();
        refused(x, NONE, 2, 0, x.slide(0, 0, 0, 0));
        x.rack(0, ALL);
        refused(x, NONE, 2, 0, x.slide(-1, 0, 0, 0));
        tried(x, NO_ROW, 2, 0, x.slide(0, -1, 0, 0));
        x.row(0, 5);
        int[][] wrong = {{-1, 0, 1}, {0, -1, 1}, {0, 0, -1}, {5, 0, 1}, {0, 5, 1}, {6, 0, 0}, {0, 6, 0}, {3, 0, 3},
            {0, 3, 3}, {FAR, 0, 1}, {0, FAR, 1}, {1, 0, FAR}, {FAR, FAR, FAR}, {DEEP, DEEP, DEEP}, {2, 2, DEEP}};
        int tries = 1;
        for (int[] w : wrong) {
            tried(x, PLACE, 2, tries++, x.slide(0, w[0], w[1], w[2]));
        }
        tried(x, 0, 2, tries++, x.slide(0, 5, 5, 0));
        tried(x, 5, 2, tries++, x.slide(0, 0, 0, 5));
        x.lay(takeOf(x, WHOLE), 0, 0);
        x.lay(takeOf(x, WHOLE), 0, 4);
        // an empty place comes to one with a bag: taken, whatever comes there
        tried(x, TAKEN, 2, tries++, x.slide(0, 1, 4, 1));
        tried(x, TAKEN, 2, tries++, x.slide(0, 0, 3, 2));
        tried(x, 0, 2, tries++, x.slide(0, 0, 4, 0));
        tried(x, TAKEN, 2, tries++, x.slide(0, 1, 0, 4));
        c.due(0, x.at(0, 0));
        c.due(1, x.at(0, 4));
    }

    /** Every slide over every filling of a row of five, against the words: all that go are lifted, then all come. */
    private static void slidingByWords() {
        c.promise(16);
        for (int from = 0; from < 5; from++) {
            for (int to = 0; to < 5; to++) {
                for (int n = 0; from + n <= 5 && to + n <= 5; n++) {
                    for (int filling = 0; filling < 32; filling++) {
                        slideByWords(from, to, n, filling);
                    }
                }
            }
        }
    }

    private static void slideByWords(int from, int to, int n, int filling) {
        BloodBank x = new BloodBank();
        x.rack(0, ALL);
        x.row(0, 5);
        int[] before = new int[5], after = new int[5];
        for (int place = 0; place < 5; place++) {
            before[place] = EMPTY;
            if ((filling >> place & 1) == 1) {
                before[place] = takeOf(x, WHOLE);
                x.lay(before[place], 0, place);
            }
            after[place] = before[place];
        }
        boolean taken = false;
        for (int place = to; place < to + n; place++) {
            taken |= before[place] != EMPTY && (place < from || place >= from + n);
        }
        for (int i = 0; i < n && !taken; i++) {
            after[from + i] = EMPTY;
        }
        for (int i = 0; i < n && !taken; i++) {
            after[to + i] = before[from + i];
        }
        c.due(taken ? TAKEN : n, x.slide(0, from, to, n));
        for (int place = 0; place < 5; place++) {
            c.due(after[place], x.at(0, place));
            if (after[place] != EMPTY) {
                c.due(place, x.told(after[place], 15));
            }
        }
    }

    private static void testing() {
        c.promise(17);
        BloodBank x = new BloodBank();
        refused(x, NONE, 3, 0, x.test(0, true));
        takeOf(x, WHOLE);
        takeOf(x, WHOLE);
        refused(x, NONE, 3, 0, x.test(-1, true));
        refused(x, NONE, 3, 0, x.test(2, true));
        tried(x, 1, 3, 0, x.test(0, true));
        tried(x, 1, 3, 1, x.test(1, false));
        c.due(1, x.told(0, 0));
        c.due(2, x.told(1, 0));
        tried(x, AS_IS, 3, 2, x.test(0, false));
        tried(x, AS_IS, 3, 3, x.test(1, false));
        c.due(1, x.told(0, 0));
        x.spoil(0);
        tried(x, GONE, 3, 4, x.test(0, true));
        int pool = poolOf(x, PLASMA);
        tried(x, 1, 3, 5, x.test(pool, true));
    }

    private static void freeing() {
        c.promise(18);
        BloodBank x = new BloodBank();
        refused(x, NONE, 4, 0, x.free(0));
        int bag = takeOf(x, WHOLE);
        tried(x, UNTESTED, 4, 0, x.free(bag));
        c.due(0, x.told(bag, 1));
        x.test(bag, true);
        tried(x, 1, 4, 1, x.free(bag));
        c.due(1, x.told(bag, 1));
        tried(x, AS_IS, 4, 2, x.free(bag));
        int poor = takeOf(x, WHOLE);
        x.test(poor, false);
        tried(x, AS_IS, 4, 3, x.free(poor));
        x.spoil(poor);
        tried(x, GONE, 4, 4, x.free(poor));

        int platelets = x.take(0, PLATELETS, 2, 1, 0, 100);
        x.test(platelets, true);
        warm(x, platelets);
        tried(x, WARM, 4, 5, x.free(platelets));
        int late = x.take(0, PLATELETS, 2, 1, 0, 100);
        x.test(late, true);
        pass(x, 39);
        x.recall(2);
        tried(x, WARM, 4, 6, x.free(platelets));
        tried(x, RECALLED, 4, 7, x.free(late));
        x.minute();
        tried(x, EXPIRED, 4, 8, x.free(late));
        int untested = takeOf(x, PLATELETS);
        x.recall(1);
        tried(x, UNTESTED, 4, 9, x.free(untested));
        tried(x, AS_IS, 4, 10, x.free(bag));
    }

    private static void parting() {
        c.promise(19);
        BloodBank x = new BloodBank();
        refused(x, NONE, 5, 0, x.part(0));
        x.patient(5, 0);
        x.rack(2, ALL);
        x.row(0, 4);
        int bag = x.take(2, WHOLE, 77, 5, 12, 1999);
        x.test(bag, true);
        x.free(bag);
        x.lay(bag, 0, 3);
        pass(x, 4);
        x.reserve(bag, 0);
        tried(x, RESERVED, 5, 0, x.part(bag));
        x.release(bag);
        tried(x, 1, 5, 1, x.part(bag));
        c.due(3, x.state(bag));
        c.due(EMPTY, x.at(0, 3));
        int loss = 1999 * 3 / 100;
        int[] whole = {1, 1, 0, 0, -9, 77, 5, 12, 1999, loss, 120, 4, 0, 2, -9, -9, -9};
        dueTold(x, bag, whole);
        int[] lives = {160, 90, 40};
        int[] grams = {880, 940, 120};
        for (int i = 0; i < 3; i++) {
            c.due(i + 1, x.kindOf(i + 1));
            c.due(0, x.state(i + 1));
            int[] told = {1, 0, 0, 0, -9, 77, 5, 12, grams[i], 0, 4 + lives[i], 0, 0, 2, -9, -9, -9};
            dueTold(x, i + 1, told);
            c.due(i + 1, x.came(bag, i));
            c.due(bag, x.from(i + 1, 0));
            c.due(NONE, x.from(i + 1, 1));
        }
        c.due(1999, x.told(1, 8) + x.told(2, 8) + x.told(3, 8) + loss);
        tried(x, GONE, 5, 2, x.part(bag));
        for (int i = 1; i < 4; i++) {
            tried(x, KIND, 5, i + 2, x.part(i));
        }
        partingOutdated();
    }

    private static void dueTold(BloodBank x, int bag, int[] told) {
        for (int what = 0; what < told.length; what++) {
            c.due(told[what], x.told(bag, what));
        }
    }

    private static void partingOutdated() {
        BloodBank x = new BloodBank();
        x.patient(1, 0);
        int warm = takeOf(x, WHOLE);
        x.test(warm, false);
        warm(x, warm);
        int first = x.part(warm);
        for (int i = 0; i < 3; i++) {
            c.due(2, x.told(first + i, 0));
            c.due(1, x.told(first + i, 2));
        }
        int late = takeOf(x, WHOLE);
        pass(x, 119);
        c.due(first + 4, x.part(late));
        late = takeOf(x, WHOLE);
        x.recall(1);
        c.due(RECALLED, x.part(late));
        pass(x, 120);
        c.due(EXPIRED, x.part(late));
        x.reserve(late, 0);
        c.due(RESERVED, x.part(late));
        int fresh = takeOf(x, WHOLE);
        c.due(0, x.told(fresh, 3));
        c.due(fresh + 1, x.part(fresh));
    }

    private static void partingFull() {
        c.promise(19);
        BloodBank x = new BloodBank();
        for (int i = 0; i < 197; i++) {
            takeOf(x, i % 2 == 0 ? WHOLE : PLASMA);
        }
        c.due(197, x.part(0));
        c.due(200, x.count(1));
        refused(x, FULL, 5, 1, x.part(2));
        refused(x, FULL, 5, 1, x.part(1));
        refused(x, NONE, 5, 1, x.part(200));
        c.promise(22);
        refused(x, FULL, 6, 0, x.pool(2));
        refused(x, BAD, 6, 0, x.pool(4));
        c.promise(23);
        refused(x, FULL, 7, 0, x.freeze(1));
        refused(x, NONE, 7, 0, x.freeze(200));
        c.promise(24);
        refused(x, FULL, 8, 0, x.thaw(1));
        refused(x, NONE, 8, 0, x.thaw(-1));

        BloodBank y = new BloodBank();
        for (int i = 0; i < 198; i++) {
            takeOf(y, i % 2 == 0 ? WHOLE : PLASMA);
        }
        c.promise(19);
        refused(y, FULL, 5, 0, y.part(0));
        c.promise(23);
        c.due(198, y.freeze(1));
        c.promise(24);
        c.due(199, y.thaw(198));
        refused(y, FULL, 8, 1, y.thaw(198));
        oneMore();
    }

    /** The last bag may come by any act that makes one. */
    private static void oneMore() {
        for (int act = 6; act <= 7; act++) {
            BloodBank x = new BloodBank();
            for (int i = 0; i < 199; i++) {
                takeOf(x, PLASMA);
            }
            x.tray(198);
            x.tray(0);
            c.promise(act + 16);
            c.due(199, act == 6 ? x.pool(PLASMA) : x.freeze(198));
            refused(x, FULL, act, 1, act == 6 ? x.pool(PLASMA) : x.freeze(1));
        }
    }

    private static void trays() {
        c.promise(20);
        BloodBank x = new BloodBank();
        c.due(NONE, x.tray(0));
        for (int i = 0; i < 8; i++) {
            takeOf(x, WHOLE);
        }
        x.spoil(0);
        x.rack(0, ALL);
        x.row(0, 2);
        x.lay(1, 0, 0);
        c.due(NONE, x.tray(-1));
        c.due(GONE, x.tray(0));
        for (int i = 1; i <= 6; i++) {
            c.due(i, x.tray(i));
            c.due(i < 6 ? AS_IS : FULL, x.tray(i));
            c.due(i, x.count(4));
        }
        c.due(1, x.state(1));
        c.due(FULL, x.tray(7));
        c.due(FULL, x.tray(0));
        c.due(NONE, x.tray(8));
        c.promise(21);
        c.due(6, x.untray());
        c.due(0, x.untray());
        c.due(0, x.count(4));
        c.promise(20);
        c.due(1, x.tray(7));
        c.due(2, x.tray(1));
        x.spoil(1);
        c.due(GONE, x.tray(1));
        c.due(2, x.count(4));
        c.due(0, x.status());
    }

    private static void pooling() {
        c.promise(22);
        BloodBank x = new BloodBank();
        x.rack(3, ALL);
        x.row(0, 3);
        pass(x, 2);
        int a = x.take(3, PLASMA, 5, 7, 1, 2000);
        int b = x.freeze(x.take(3, PLASMA, 6, 3, 8, 149));
        int d = x.take(3, PLASMA, 7, 5, 9, 3);
        x.lay(d, 0, 2);
        x.tray(d);
        x.tray(a);
        x.tray(b);
        int triesBefore = x.tries(6);
        refused(x, BAD, 6, triesBefore, x.pool(4));
        refused(x, BAD, 6, triesBefore, x.pool(1));
        refused(x, BAD, 6, triesBefore, x.pool(5));
        refused(x, BAD, 6, triesBefore, x.pool(6));
        refused(x, BAD, 6, triesBefore, x.pool(DEEP));
        tried(x, KIND, 6, triesBefore, x.pool(PLATELETS));
        c.due(3, x.count(4));
        int pool = x.count(1);
        tried(x, pool, 6, triesBefore + 1, x.pool(PLASMA));
        c.due(0, x.count(4));
        int[] told = {0, 0, 0, 0, -9, -1, 1, 9, 2000 + 147 + 3, 0, 32, 0, 0, 3, -9, -9, -9};
        dueTold(x, pool, told);
        c.due(POOL, x.kindOf(pool));
        c.due(0, x.state(pool));
        int[] made = {d, a, b};
        for (int i = 0; i < 3; i++) {
            c.due(4, x.state(made[i]));
            c.due(made[i], x.from(pool, i));
            c.due(pool, x.came(made[i], 0));
            c.due(NONE, x.came(made[i], 1));
            c.due(0, x.told(made[i], 9));
        }
        c.due(NONE, x.from(pool, 3));
        c.due(EMPTY, x.at(0, 2));
        c.due(-9, x.told(d, 14));
        x.tray(x.take(3, PLASMA, 5, 7, 1, 2000));
        x.tray(pool);
        c.due(KIND, x.pool(PLASMA));
        int six = 0;
        x.untray();
        for (int i = 0; i < 6; i++) {
            six = takeOf(x, PLATELETS);
            x.tray(six);
        }
        c.due(six + 1, x.pool(PLATELETS));
        c.due(600, x.told(six + 1, 8));
        c.due(six, x.from(six + 1, 5));
        c.due(NONE, x.from(six + 1, 6));
    }

    private static void poolingGroups() {
        c.promise(22);
        for (int one = 0; one < 8; one++) {
            BloodBank x = new BloodBank();
            for (int other = 0; other < 8; other++) {
                x.tray(x.take(0, PLATELETS, 1, one, one << 13, 1));
                x.tray(x.take(0, PLATELETS, 1, other, other, 1));
                int pool = x.pool(PLATELETS);
                c.due(one & other, x.told(pool, 6));
                c.due(one << 13 | other, x.told(pool, 7));
            }
        }
    }

    /** All mixes of three sources by test and warmth. */
    private static void poolingTests() {
        c.promise(22);
        for (int mix = 0; mix < 27; mix++) {
            BloodBank x = new BloodBank();
            int[] tests = {mix % 3, mix / 3 % 3, mix / 9};
            for (int i = 0; i < 3; i++) {
                takeOf(x, PLATELETS);
                if (tests[i] > 0) {
                    x.test(i, tests[i] == 1);
                }
                x.tray(i);
            }
            if (mix % 4 > 0) {
                warm(x, mix % 4 - 1);
            }
            x.test(0, true);
            tests[0] = tests[0] == 0 ? 1 : tests[0];
            boolean bad = tests[0] == 2 || tests[1] == 2 || tests[2] == 2;
            boolean good = tests[0] == 1 && tests[1] == 1 && tests[2] == 1;
            c.due(3, x.pool(PLATELETS));
            c.due(bad ? 2 : good ? 1 : 0, x.told(3, 0));
            c.due(mix % 4 > 0 ? 1 : 0, x.told(3, 2));
            c.due(0, x.told(3, 1));
        }
    }

    private static void poolFindings() {
        c.promise(22);
        BloodBank x = new BloodBank();
        x.patient(0, 0);
        tried(x, EMPTY, 6, 0, x.pool(PLASMA));
        int a = takeOf(x, PLASMA);
        int b = x.take(1, PLASMA, 2, 1, 0, 100);
        int whole = takeOf(x, WHOLE);
        x.tray(a);
        tried(x, EMPTY, 6, 1, x.pool(PLASMA));
        x.tray(b);
        tried(x, AS_IS, 6, 2, x.pool(PLASMA));
        x.tray(whole);
        tried(x, AS_IS, 6, 3, x.pool(PLASMA));
        x.send(b, 0);
        tried(x, KIND, 6, 4, x.pool(PLASMA));
        x.spoil(whole);
        tried(x, GONE, 6, 5, x.pool(PLASMA));
        x.reserve(b, 0);
        tried(x, RESERVED, 6, 6, x.pool(PLASMA));
        x.recall(1);
        tried(x, RECALLED, 6, 7, x.pool(PLASMA));
        pass(x, 90);
        tried(x, EXPIRED, 6, 8, x.pool(PLASMA));
        x.reserve(a, 0);
        tried(x, RESERVED, 6, 9, x.pool(PLASMA));
        tried(x, KIND, 6, 10, x.pool(PLATELETS));
        x.send(b, 1);
        x.untray();
        x.tray(b);
        x.tray(a);
        tried(x, RESERVED, 6, 11, x.pool(PLASMA));
        x.release(b);
        tried(x, EXPIRED, 6, 12, x.pool(PLASMA));
        x.spoil(b);
        tried(x, GONE, 6, 13, x.pool(PLATELETS));
        c.due(2, x.count(4));
        x.untray();
        int good = takeOf(x, PLASMA);
        int other = x.take(1, PLASMA, 2, 1, 0, 100);
        x.reserve(other, 0);
        x.tray(good);
        x.tray(other);
        tried(x, AS_IS, 6, 14, x.pool(PLASMA));
        x.send(other, 0);
        tried(x, RESERVED, 6, 15, x.pool(PLASMA));
        x.release(other);
        tried(x, other + 1, 6, 16, x.pool(PLASMA));
    }

    private static void freezing() {
        c.promise(23);
        BloodBank x = new BloodBank();
        x.patient(0, 0);
        refused(x, NONE, 7, 0, x.freeze(0));
        x.rack(1, ALL);
        x.row(0, 1);
        int bag = x.take(1, PLASMA, 9, 6, 3, 149);
        x.test(bag, true);
        x.free(bag);
        x.lay(bag, 0, 0);
        pass(x, 3);
        tried(x, 1, 7, 0, x.freeze(bag));
        int[] source = {1, 1, 0, 0, -9, 9, 6, 3, 149, 2, 90, 3, 0, 1, -9, -9, -9};
        int[] told = {1, 0, 0, 0, -9, 9, 6, 3, 147, 0, 603, 0, 0, 1, -9, -9, -9};
        dueTold(x, bag, source);
        dueTold(x, 1, told);
        c.due(FROZEN, x.kindOf(1));
        c.due(3, x.state(bag));
        c.due(EMPTY, x.at(0, 0));
        c.due(1, x.came(bag, 0));
        c.due(bag, x.from(1, 0));
        tried(x, GONE, 7, 1, x.freeze(bag));
        tried(x, AS_IS, 7, 2, x.freeze(1));
        x.reserve(1, 0);
        tried(x, AS_IS, 7, 3, x.freeze(1));
        int[] others = {takeOf(x, WHOLE), takeOf(x, CELLS), takeOf(x, PLATELETS), poolOf(x, PLASMA)};
        for (int i = 0; i < others.length; i++) {
            tried(x, KIND, 7, i + 4, x.freeze(others[i]));
        }
        for (int grams : new int[] {1, 49, 50, 99, 100, 1999, 2000}) {
            int plasma = x.take(0, PLASMA, 1, 1, 1, grams);
            int frozen = x.freeze(plasma);
            c.due(grams - grams / 50, x.told(frozen, 8));
            c.due(grams / 50, x.told(plasma, 9));
        }
        int late = takeOf(x, PLASMA);
        pass(x, 89);
        c.due(late + 1, x.freeze(late));
        late = takeOf(x, PLASMA);
        x.recall(1);
        c.due(RECALLED, x.freeze(late));
        pass(x, 90);
        c.due(EXPIRED, x.freeze(late));
        x.reserve(late, 0);
        c.due(RESERVED, x.freeze(late));
    }

    private static void thawing() {
        c.promise(24);
        BloodBank x = new BloodBank();
        x.patient(0, 0);
        refused(x, NONE, 8, 0, x.thaw(0));
        int frozen = x.freeze(x.take(2, PLASMA, 9, 6, 3, 149));
        x.test(frozen, false);
        warm(x, frozen);
        x.rack(2, FROZEN);
        x.row(1, 1);
        x.lay(frozen, 1, 0);
        tried(x, 2, 8, 0, x.thaw(frozen));
        int[] source = {2, 0, 1, 0, -9, 9, 6, 3, 147, 0, 600, 0, 2, 2, -9, -9, -9};
        int[] told = {2, 0, 1, 0, -9, 9, 6, 3, 147, 0, 92, 0, 0, 2, -9, -9, -9};
        dueTold(x, frozen, source);
        dueTold(x, 2, told);
        c.due(PLASMA, x.kindOf(2));
        c.due(EMPTY, x.at(1, 0));
        c.due(3, x.state(frozen));
        c.due(2, x.came(frozen, 0));
        c.due(frozen, x.from(2, 0));
        tried(x, GONE, 8, 1, x.thaw(frozen));
        int[] others = {2, takeOf(x, WHOLE), takeOf(x, CELLS), takeOf(x, PLATELETS), poolOf(x, PLASMA)};
        for (int i = 0; i < others.length; i++) {
            tried(x, KIND, 8, i + 2, x.thaw(others[i]));
        }
        // frozen once more: the loss is of what is there now
        c.due(others[4] + 1, x.freeze(2));
        c.due(145, x.told(others[4] + 1, 8));
        thawFindings();
    }

    private static void thawFindings() {
        BloodBank x = new BloodBank();
        x.patient(0, 0);
        int frozen = x.freeze(x.take(0, PLASMA, 9, 6, 3, 149));
        x.recall(9);
        c.due(RECALLED, x.thaw(frozen));
        x.reserve(frozen, 0);
        c.due(RESERVED, x.thaw(frozen));
    }

    private static void reserving() {
        c.promise(25);
        BloodBank x = new BloodBank();
        refused(x, NONE, 9, 0, x.reserve(0, 0));
        int bag = takeOf(x, CELLS);
        refused(x, NONE, 9, 0, x.reserve(bag, 0));
        x.patient(1, 0);
        x.patient(0, 0);
        refused(x, NONE, 9, 0, x.reserve(-1, 0));
        refused(x, NONE, 9, 0, x.reserve(1, 0));
        refused(x, NONE, 9, 0, x.reserve(bag, 2));
        refused(x, NONE, 9, 0, x.reserve(bag, -1));
        tried(x, UNFIT, 9, 0, x.reserve(bag, 1));
        c.due(-9, x.told(bag, 4));
        tried(x, 1, 9, 1, x.reserve(bag, 0));
        c.due(0, x.told(bag, 4));
        tried(x, RESERVED, 9, 2, x.reserve(bag, 0));
        tried(x, RESERVED, 9, 3, x.reserve(bag, 1));
        x.spoil(bag);
        c.due(0, x.told(bag, 4));
        tried(x, GONE, 9, 4, x.reserve(bag, 1));
        int pool = poolOf(x, PLATELETS);
        tried(x, UNFIT, 9, 5, x.reserve(pool, 1));
        tried(x, 1, 9, 6, x.reserve(pool, 0));
        // neither time nor recall nor a bad test hinders it
        int old = takeOf(x, PLATELETS);
        x.test(old, false);
        pass(x, 40);
        x.recall(1);
        tried(x, 1, 9, 7, x.reserve(old, 0));
    }

    private static void releasing() {
        c.promise(26);
        BloodBank x = new BloodBank();
        c.due(NONE, x.release(0));
        x.patient(1, 0);
        int bag = takeOf(x, CELLS);
        c.due(NONE, x.release(-1));
        c.due(AS_IS, x.release(bag));
        x.reserve(bag, 0);
        c.due(1, x.release(bag));
        c.due(-9, x.told(bag, 4));
        c.due(AS_IS, x.release(bag));
        x.reserve(bag, 0);
        x.spoil(bag);
        c.due(0, x.told(bag, 4));
        c.due(1, x.release(bag));
        c.due(AS_IS, x.release(bag));
        c.due(0, x.status());
    }

    private static void giving() {
        c.promise(27);
        BloodBank x = new BloodBank();
        x.patient(1, 0);
        x.patient(3, 0);
        x.patient(0, 0);
        x.rack(0, ALL);
        x.row(0, 2);
        x.probe(0, true);
        refused(x, NONE, 10, 0, x.give(0, 0));
        int bag = x.take(0, CELLS, 3, 1, 0, 100);
        refused(x, NONE, 10, 0, x.give(bag, 3));
        refused(x, NONE, 10, 0, x.give(bag, -1));
        tried(x, UNTESTED, 10, 0, x.give(bag, 0));
        x.test(bag, true);
        tried(x, UNFREE, 10, 1, x.give(bag, 0));
        x.free(bag);
        tried(x, UNFIT, 10, 2, x.give(bag, 2));
        x.reserve(bag, 1);
        tried(x, RESERVED, 10, 3, x.give(bag, 2));
        tried(x, RESERVED, 10, 4, x.give(bag, 0));
        x.recall(3);
        tried(x, RECALLED, 10, 5, x.give(bag, 0));
        int poor = takeOf(x, CELLS);
        x.test(poor, false);
        tried(x, UNTESTED, 10, 6, x.give(poor, 0));
        pass(x, 5);
        int other = ready(x, CELLS);
        x.lay(other, 0, 1);
        x.reserve(other, 1);
        tried(x, 1, 10, 7, x.give(other, 1));
        int[] told = {1, 1, 0, 0, -9, 1, 1, 0, 100, 0, 165, 0, 0, 0, -9, -9, 5};
        dueTold(x, other, told);
        c.due(2, x.state(other));
        c.due(EMPTY, x.at(0, 1));
        tried(x, GONE, 10, 8, x.give(other, 1));
        pass(x, 155);
        tried(x, EXPIRED, 10, 9, x.give(bag, 0));
        givingLateAndWarm();
    }

    private static void givingLateAndWarm() {
        BloodBank x = new BloodBank();
        x.patient(1, 0);
        int warm = ready(x, PLATELETS);
        warm(x, warm);
        int late = ready(x, PLATELETS);
        int edge = ready(x, PLATELETS);
        c.due(WARM, x.give(warm, 0));
        pass(x, 39);
        c.due(WARM, x.give(warm, 0));
        c.due(1, x.give(edge, 0));
        x.minute();
        c.due(EXPIRED, x.give(late, 0));
        x.recall(1);
        c.due(EXPIRED, x.give(late, 0));
    }

    private static void comingHome() {
        c.promise(28);
        BloodBank x = new BloodBank();
        x.patient(1, 0);
        refused(x, NONE, 11, 0, x.home(0));
        int[] graces = {5, 5, 7, 10, 2, 1};
        int tries = 0;
        for (int kind = 0; kind < 6; kind++) {
            for (int over = 0; over <= 1; over++) {
                int bag = kind == FROZEN ? frozen(x) : kind == POOL ? poolOf(x, PLASMA) : takeOf(x, kind);
                x.test(bag, true);
                x.free(bag);
                tried(x, AS_IS, 11, tries++, x.home(bag));
                c.due(1, x.give(bag, 0));
                int minute = x.count(3);
                pass(x, graces[kind] + over);
                c.due(minute, x.told(bag, 16));
                tried(x, 1 - over, 11, tries++, x.home(bag));
                c.due(over == 0 ? 0 : 5, x.state(bag));
                c.due(-9, x.told(bag, 16));
                c.due(1, x.told(bag, 0));
                c.due(1, x.told(bag, 1));
                tried(x, AS_IS, 11, tries++, x.home(bag));
                if (over == 0) {
                    c.due(1, x.give(bag, 0));
                }
            }
        }
        refused(x, NONE, 11, tries, x.home(-1));
        int inRack = takeOf(x, WHOLE);
        x.rack(0, ALL);
        x.row(0, 1);
        x.lay(inRack, 0, 0);
        tried(x, AS_IS, 11, tries++, x.home(inRack));
        x.spoil(inRack);
        tried(x, AS_IS, 11, tries++, x.home(inRack));
    }

    private static void spoiling() {
        c.promise(29);
        BloodBank x = new BloodBank();
        refused(x, NONE, 12, 0, x.spoil(0));
        x.patient(1, 0);
        x.rack(0, ALL);
        x.row(0, 1);
        int bag = takeOf(x, WHOLE);
        x.lay(bag, 0, 0);
        tried(x, 1, 12, 0, x.spoil(bag));
        c.due(5, x.state(bag));
        c.due(EMPTY, x.at(0, 0));
        c.due(-9, x.told(bag, 14));
        c.due(-9, x.told(bag, 15));
        tried(x, GONE, 12, 1, x.spoil(bag));
        int away = ready(x, WHOLE);
        x.give(away, 0);
        tried(x, GONE, 12, 2, x.spoil(away));
        c.due(2, x.state(away));
        refused(x, NONE, 12, 3, x.spoil(2));
    }

    private static void sharing() {
        c.promise(30);
        BloodBank x = new BloodBank();
        refused(x, NONE, 13, 0, x.share(0, -1));
        int bag = x.take(0, WHOLE, 1, 1, 1, 1999);
        refused(x, BAD, 13, 0, x.share(bag, -1));
        refused(x, BAD, 13, 0, x.share(bag, DEEP));
        refused(x, NONE, 13, 0, x.share(1, 0));
        tried(x, NOUGHT, 13, 0, x.share(bag, 0));
        tried(x, 1999, 13, 1, x.share(bag, 1));
        tried(x, 999, 13, 2, x.share(bag, 2));
        tried(x, 0, 13, 3, x.share(bag, 2000));
        tried(x, 0, 13, 4, x.share(bag, FAR));
        c.due(1999, x.told(bag, 8));
        x.spoil(bag);
        tried(x, GONE, 13, 5, x.share(bag, 0));
        tried(x, GONE, 13, 6, x.share(bag, 3));
        refused(x, BAD, 13, 7, x.share(bag, -1));
    }

    private static void recalling() {
        c.promise(31);
        BloodBank x = new BloodBank();
        c.due(BAD, x.recall(-1));
        c.due(BAD, x.recall(100));
        c.due(0, x.recall(0));
        c.due(0, x.recall(99));
        int whole = x.take(0, WHOLE, 4, 1, 0, 400);
        int cells = x.part(whole);
        int frozen = x.freeze(cells + 1);
        int thawed = x.thaw(frozen);
        int other = x.take(0, PLASMA, 5, 1, 0, 100);
        int apart = x.take(0, PLASMA, 6, 1, 0, 100);
        x.tray(other);
        x.tray(thawed);
        int pool = x.pool(PLASMA);
        x.spoil(cells);
        c.due(2, x.recall(5));
        int[] recalled = {0, 0, 0, 0, 0, 0, 1, 0, 1};
        for (int i = 0; i <= pool; i++) {
            c.due(recalled[i], x.told(i, 3));
        }
        c.due(6, x.recall(4));
        for (int i = 0; i <= pool; i++) {
            c.due(i == apart ? 0 : 1, x.told(i, 3));
        }
        c.due(0, x.recall(4));
        c.due(0, x.recall(7));
        c.due(1, x.recall(6));
        // what the donor gives later is not recalled until the next time
        c.due(0, x.told(x.take(0, WHOLE, 4, 1, 0, 400), 3));
        c.due(1, x.recall(4));
        c.due(0, x.status());
    }

    private static void listing() {
        c.promise(32);
        BloodBank x = new BloodBank();
        x.patient(1, 0);
        int[] bags = new int[6];
        for (int i = 0; i < 6; i++) {
            bags[i] = ready(x, i % 2 == 0 ? CELLS : PLATELETS);
        }
        c.due(NONE, x.listed(0));
        x.give(bags[4], 0);
        x.give(bags[1], 0);
        x.give(bags[2], 0);
        c.promise(31);
        c.due(3, x.recall(1));
        c.due(0, x.told(bags[1], 3));
        c.due(0, x.told(bags[4], 3));
        c.promise(32);
        for (int again = 0; again < 2; again++) {
            c.due(bags[1], x.listed(0));
            c.due(bags[2], x.listed(1));
            c.due(bags[4], x.listed(2));
            c.due(NONE, x.listed(3));
            c.due(NONE, x.listed(-1));
            c.due(NONE, x.listed(FAR));
            c.due(NONE, x.listed(DEEP));
            // neither coming home nor a refused recall takes anything from the list
            x.home(bags[2]);
            c.due(BAD, x.recall(100));
        }
        c.promise(31);
        c.due(1, x.recall(1));
        c.promise(32);
        c.due(bags[1], x.listed(0));
        c.due(bags[4], x.listed(1));
        c.due(NONE, x.listed(2));
        c.due(0, x.recall(2));
        c.due(NONE, x.listed(0));

        BloodBank y = new BloodBank();
        y.patient(0, 0);
        int pool = poolOf(y, PLASMA);
        y.test(pool, true);
        y.free(pool);
        y.give(pool, 0);
        c.promise(31);
        c.due(2, y.recall(1));
        c.promise(32);
        c.due(pool, y.listed(0));
        c.due(NONE, y.listed(1));
    }

    private static void bookkeeping() {
        c.promise(46);
        BloodBank x = new BloodBank();
        x.rack(0, ALL);
        x.row(0, 1);
        takeOf(x, WHOLE);
        x.test(9, true);
        c.due(NONE, x.status());
        // calls that are no acts leave it, whatever they answer
        x.row(0, 21);
        x.unrow(5);
        x.probe(0, false);
        x.cold(0, 999);
        x.fails(0);
        x.minute();
        x.patient(9, 9);
        x.take(0, 9, 9, 9, 9, 9);
        x.send(0, 0);
        x.tray(5);
        x.untray();
        x.release(0);
        x.recall(-1);
        x.told(0, 99);
        x.match(0, 0);
        x.stock(0, 9);
        x.at(0, 0);
        c.due(NONE, x.status());
        c.due(1, x.test(0, true));
        c.due(0, x.status());
        c.due(AS_IS, x.test(0, true));
        c.due(AS_IS, x.status());
        c.promise(44);
        int all = 0;
        for (int act = 0; act < 14; act++) {
            all += x.tries(act);
        }
        c.due(2, all);
        c.due(BAD, x.tries(-1));
        c.due(BAD, x.tries(14));
        c.due(BAD, x.tries(FAR));
        c.promise(45);
        c.due(0, x.locked());
    }
}
