/** Promises 11 to 13: patients, bags taken, bags sent; and section 2, what holds by kinds. */
public final class BagsTest {
    private static final int NONE = BloodBank.NONE, BAD = BloodBank.BAD, FULL = BloodBank.FULL;
    private static final int GONE = BloodBank.GONE, AS_IS = BloodBank.AS_IS;
    private static final int FAR = Integer.MAX_VALUE, DEEP = Integer.MIN_VALUE;
    private static final int MANY_SIGNS = 65535;
    private static final Check c = new Check("BagsTest");

    public static void main(String[] args) {
        patients();
        taking();
        takingWrongly();
        sending();
        bodiesByKinds();
        fitting();
        fittingPools();
        shares();
        c.end();
    }

    private static void patients() {
        c.promise(11);
        BloodBank x = new BloodBank();
        c.due(BAD, x.patient(-1, 0));
        c.due(BAD, x.patient(8, 0));
        c.due(BAD, x.patient(0, -1));
        c.due(BAD, x.patient(0, 65536));
        c.due(BAD, x.patient(FAR, DEEP));
        for (int i = 0; i < 40; i++) {
            c.due(i, x.patient(i % 8, i % 2 == 0 ? 0 : 65535));
            c.due(i + 1, x.count(2));
        }
        c.due(FULL, x.patient(0, 0));
        c.due(BAD, x.patient(8, 0));
        c.due(40, x.count(2));
    }

    private static void taking() {
        c.promise(12);
        BloodBank x = new BloodBank();
        int[] lives = {120, 160, 90, 40};
        for (int m = 0; m < 7; m++) {
            x.minute();
        }
        for (int kind = 0; kind < 4; kind++) {
            c.due(kind, x.take(3 - kind, kind, 99, 7, MANY_SIGNS, 2000));
            int[] told = {0, 0, 0, 0, -9, 99, 7, MANY_SIGNS, 2000, 0, 7 + lives[kind], 0, 0, 3 - kind, -9, -9, -9};
            for (int what = 0; what < told.length; what++) {
                c.due(told[what], x.told(kind, what));
            }
            c.due(kind, x.kindOf(kind));
            c.due(0, x.state(kind));
            c.due(NONE, x.from(kind, 0));
            c.due(NONE, x.came(kind, 0));
        }
        c.due(4, x.take(0, 0, 0, 0, 0, 1));
        c.due(5, x.count(1));
        for (int i = 5; i < 200; i++) {
            c.due(i, x.take(i % 4, i % 4, i % 100, i % 8, i, i));
        }
        c.due(FULL, x.take(0, 0, 0, 0, 0, 1));
        c.due(BAD, x.take(0, 0, 0, 0, 0, 0));
        c.due(NONE, x.take(4, 0, 0, 0, 0, 1));
        c.due(200, x.count(1));
        c.due(0, x.status());
    }

    private static void takingWrongly() {
        c.promise(12);
        BloodBank x = new BloodBank();
        c.due(NONE, x.take(-1, 0, 0, 0, 0, 1));
        c.due(NONE, x.take(4, 9, 0, 0, 0, 1));
        c.due(BAD, x.take(0, -1, 0, 0, 0, 1));
        c.due(BAD, x.take(0, 4, 0, 0, 0, 1));
        c.due(BAD, x.take(0, 5, 0, 0, 0, 1));
        c.due(BAD, x.take(0, 0, -1, 0, 0, 1));
        c.due(BAD, x.take(0, 0, 100, 0, 0, 1));
        c.due(BAD, x.take(0, 0, 0, -1, 0, 1));
        c.due(BAD, x.take(0, 0, 0, 8, 0, 1));
        c.due(BAD, x.take(0, 0, 0, 0, -1, 1));
        c.due(BAD, x.take(0, 0, 0, 0, 65536, 1));
        c.due(BAD, x.take(0, 0, 0, 0, 0, 0));
        c.due(BAD, x.take(0, 0, 0, 0, 0, 2001));
        c.due(BAD, x.take(0, FAR, DEEP, FAR, DEEP, FAR));
        c.due(0, x.count(1));
        c.due(7, x.digest());
    }

    private static void sending() {
        c.promise(13);
        BloodBank x = new BloodBank();
        x.take(0, 2, 1, 1, 1, 100);
        x.rack(3, 6);
        x.row(0, 2);
        c.due(NONE, x.send(1, 1));
        c.due(NONE, x.send(-1, 1));
        c.due(NONE, x.send(0, 4));
        c.due(NONE, x.send(0, -1));
        c.due(AS_IS, x.send(0, 0));
        c.due(1, x.send(0, 3));
        c.due(3, x.told(0, 13));
        c.due(0, x.state(0));
        c.due(1, x.stock(3, 2));
        c.due(0, x.stock(0, 2));
        c.due(1, x.lay(0, 0, 1));
        c.due(AS_IS, x.send(0, 1));
        c.due(AS_IS, x.send(0, 3));
        c.due(3, x.told(0, 13));
        c.due(1, x.freeze(0));
        c.due(3, x.told(1, 13));
        c.due(GONE, x.send(0, 1));
        c.due(GONE, x.send(0, 3));
        c.due(NONE, x.send(0, 4));
        c.due(0, x.status());
        c.due(1, x.send(1, 0));
        x.test(7, true);
        c.due(NONE, x.status());
        c.due(1, x.send(1, 1));
        c.due(NONE, x.status());
    }

    private static void bodiesByKinds() {
        c.promise(36);
        int[][] due = {
            {60, 3, 120, 5, 1, 2, 32}, {60, 3, 160, 5, 4, 8, 30}, {80, 5, 90, 7, 12, 24, 30},
            {240, 8, 40, 10, 1, 9, 30}, {-180, 2, 600, 2, 123, 246, 30}, {80, 4, 30, 1, 5, 10, 45},
            {-180, 4, 30, 1, 5, 10, 45}, {240, 4, 30, 1, 5, 10, 45}};
        BloodBank x = new BloodBank();
        for (int kind = 0; kind < 4; kind++) {
            x.take(0, kind, 1, 1, 1, 50);
        }
        int[] bags = {0, 1, 2, 3, frozen(x, 1), pooled(x, 2, x.take(0, 2, 1, 1, 1, 9), x.take(0, 2, 1, 1, 1, 9)),
            pooled(x, 2, x.take(0, 2, 1, 1, 1, 9), frozen(x, 1)),
            pooled(x, 3, x.take(0, 3, 1, 1, 1, 9), x.take(0, 3, 1, 1, 1, 9))};
        for (int i = 0; i < bags.length; i++) {
            for (int what = 0; what < 7; what++) {
                c.due(due[i][what], x.bodies(bags[i], what));
            }
            c.due(BAD, x.bodies(bags[i], 7));
            c.due(BAD, x.bodies(bags[i], -1));
            c.due(Math.min(i, 5), x.kindOf(bags[i]));
        }
        c.due(-180, x.bodies(pooled(x, 2, frozen(x, 1), x.take(0, 2, 1, 1, 1, 9)), 0));
        c.due(-180, x.bodies(pooled(x, 2, frozen(x, 1), frozen(x, 1)), 0));
        c.due(80, x.bodies(pooled(x, 2, x.thaw(frozen(x, 1)), x.take(0, 2, 1, 1, 1, 9)), 0));
        c.due(NONE, x.bodies(-1, 9));
        c.due(NONE, x.bodies(200, 0));
        c.due(NONE, x.bodies(x.count(1), 0));
    }

    private static int frozen(BloodBank x, int group) {
        return x.freeze(x.take(0, 2, 1, group, 1, 50));
    }

    private static int pooled(BloodBank x, int kind, int one, int other) {
        x.tray(one);
        x.tray(other);
        return x.pool(kind);
    }

    private static void fitting() {
        c.promise(41);
        BloodBank x = null;
        for (int kind = 0; kind < 5; kind++) {
            x = new BloodBank();
            for (int p = 0; p < 16; p++) {
                x.patient(p % 8, p < 8 ? 2 : 5);
            }
            for (int g = 0; g < 8; g++) {
                int bag = kind == 4 ? frozen(x, g) : x.take(0, kind, 1, g, 1, 50);
                for (int p = 0; p < 16; p++) {
                    c.due(fitsByWords(kind, g, p % 8, p >= 8) ? 1 : 0, x.fits(bag, p));
                }
            }
        }
        c.due(NONE, x.fits(-1, 0));
        c.due(NONE, x.fits(x.count(1), 0));
        c.due(NONE, x.fits(0, -1));
        c.due(NONE, x.fits(0, 16));
        int whole = x.take(0, 0, 1, 0, 1, 50);
        c.due(1, x.spoil(whole));
        c.due(1, x.fits(whole, 0));
    }

    /** Bit by bit, as the document tells it. */
    private static boolean fitsByWords(int kind, int g, int p, boolean against) {
        boolean gA = g % 2 == 1, gB = g / 2 % 2 == 1, gD = g / 4 == 1;
        boolean pA = p % 2 == 1, pB = p / 2 % 2 == 1, pD = p / 4 == 1;
        switch (kind) {
            case 0: return gA == pA && gB == pB && (!gD || pD) && !against;
            case 1: return (!gA || pA) && (!gB || pB) && (!gD || pD) && !against;
            case 3: return gA == pA && gB == pB;
            default: return (!pA || gA) && (!pB || gB);
        }
    }

    private static void fittingPools() {
        c.promise(41);
        BloodBank x = new BloodBank();
        for (int p = 0; p < 8; p++) {
            x.patient(p, 65535);
        }
        int plasmas = pooled(x, 2, x.take(0, 2, 1, 3, 1, 9), x.take(0, 2, 1, 1, 1, 9));
        int withFrozen = pooled(x, 2, frozen(x, 2), x.take(0, 2, 1, 3, 1, 9));
        int platelets = pooled(x, 3, x.take(0, 3, 1, 1, 1, 9), x.take(0, 3, 1, 5, 1, 9));
        int mixed = pooled(x, 3, x.take(0, 3, 1, 1, 1, 9), x.take(0, 3, 1, 3, 1, 9));
        for (int p = 0; p < 8; p++) {
            c.due((p & 2) == 0 ? 1 : 0, x.fits(plasmas, p));
            c.due((p & 1) == 0 ? 1 : 0, x.fits(withFrozen, p));
            c.due((p & 3) == 1 ? 1 : 0, x.fits(platelets, p));
            c.due(0, x.fits(mixed, p));
        }
    }

    private static void shares() {
        c.promise(19);
        BloodBank x = null;
        for (int grams = 1; grams <= 2000; grams++) {
            if (x == null || x.count(1) > 190) {
                x = new BloodBank();
            }
            int bag = x.take(0, 0, 1, 1, 1, grams);
            int cells = x.part(bag);
            int[] due = {44 * grams / 100, 47 * grams / 100, 6 * grams / 100, 3 * grams / 100};
            int left = grams - due[0] - due[1] - due[2] - due[3];
            for (int k = 0; left > 0; k = (k + 1) % 3) {
                due[k]++;
                left--;
            }
            c.due(due[0], x.told(cells, 8));
            c.due(due[1], x.told(cells + 1, 8));
            c.due(due[2], x.told(cells + 2, 8));
            c.due(due[3], x.told(bag, 9));
            c.due(grams, x.told(bag, 8));
        }
    }
}
