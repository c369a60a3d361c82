import java.util.ArrayList;
import java.util.List;
import java.util.TreeSet;

/**
 * The document once more, written for plainness alone and in another way than the class: lists that grow, readings
 * as floats, an act's answer thought out first and booked behind it. RandomRunsTest holds the class against it.
 */
public final class Model {
    private static final int NONE = -1, BAD = -2, FULL = -3, NO_ROW = -11, PLACE = -12, KIND = -13, EMPTY = -14,
        TAKEN = -15, SIZE = -16, NOUGHT = -17, GONE = -18, UNTESTED = -19, UNFREE = -20, WARM = -21, EXPIRED = -22,
        RECALLED = -23, RESERVED = -24, UNFIT = -25, AS_IS = -26;
    private static final int NOTHING = -9;
    private static final int[] MARK = {60, 60, 80, 240, -180};
    private static final int[] SPAN = {3, 3, 5, 8, 2, 4};
    private static final int[] LIFE = {120, 160, 90, 40, 600, 30};
    private static final int[] GRACE = {5, 5, 7, 10, 2, 1};
    private static final int[] CODE = {1, 4, 12, 1, 123, 5};
    private static final int[] TWICE = {2, 8, 24, 9, 246, 10};
    private static final int[] RANK = {32, 30, 30, 30, 30, 45};

    private static final class Bag {
        private int number, kind, bank, donor, group, signs, grams, loss, expires, tested, state, unread, row;
        private boolean free, warm, recalled;
        private int patient = NOTHING, away = NOTHING;
        private final List<Bag> from = new ArrayList<>();
        private final List<Bag> came = new ArrayList<>();
    }

    private static final class Rack {
        private int bank, kind, since;
        private Bag[] row;
        private List<Float> readings;
    }

    private final List<Rack> racks = new ArrayList<>();
    private final List<Bag> bags = new ArrayList<>();
    private final List<int[]> patients = new ArrayList<>();
    private final List<Bag> tray = new ArrayList<>();
    private List<Bag> listed = new ArrayList<>();
    private int[] tries = new int[14];
    private int now, status;

    // ---- helps

    private static boolean in(int n, int least, int most) {
        return least <= n && n <= most;
    }

    private static boolean in(int n, List<?> list) {
        return in(n, 0, list.size() - 1);
    }

    private static boolean is(Bag b, int kind) {
        return kind == 6 || b.kind == kind || b.kind == 4 && kind == 2;
    }

    private static boolean gone(Bag b) {
        return in(b.state, 2, 5);
    }

    /** The place in which a bag lies, found by looking for it. */
    private int placeOf(Bag b, Rack r) {
        for (int i = 0; r.row != null && i < r.row.length; i++) {
            if (r.row[i] == b) {
                return i;
            }
        }
        return NOTHING;
    }

    private int rackOf(Bag b) {
        for (int i = 0; i < racks.size(); i++) {
            if (placeOf(b, racks.get(i)) != NOTHING) {
                return i;
            }
        }
        return NOTHING;
    }

    private void become(Bag b, int state) {
        int rack = rackOf(b);
        if (rack != NOTHING) {
            racks.get(rack).row[placeOf(b, racks.get(rack))] = null;
        }
        b.state = state;
    }

    private Bag newBag(int kind, int bank, int donor, int group, int signs, int grams) {
        Bag b = new Bag();
        b.number = bags.size();
        b.kind = kind;
        b.bank = bank;
        b.donor = donor;
        b.group = group;
        b.signs = signs;
        b.grams = grams;
        b.expires = now + LIFE[kind];
        bags.add(b);
        return b;
    }

    private Bag partOf(Bag whole, int kind, int grams) {
        Bag b = newBag(kind, whole.bank, whole.donor, whole.group, whole.signs, grams);
        b.tested = whole.tested;
        b.warm = whole.warm;
        b.from.add(whole);
        whole.came.add(b);
        return b;
    }

    private int mark(Bag b) {
        int least = b.kind == 5 ? 9999 : MARK[b.kind];
        for (Bag of : b.from) {
            least = b.kind == 5 ? Math.min(least, MARK[of.kind]) : least;
        }
        return least;
    }

    private boolean fitting(Bag b, int[] patient) {
        int ab = b.group % 4, pab = patient[0] % 4, d = b.group / 4, pd = patient[0] / 4;
        boolean unsigned = (b.signs & patient[1]) == 0;
        switch (b.kind) {
            case 0: return ab == pab && d <= pd && unsigned;
            case 1: return (b.group | patient[0]) == patient[0] && unsigned;
            case 3: return ab == pab;
            case 5: return b.from.stream().allMatch(of -> fitting(of, patient));
            default: return (ab | pab) == ab;
        }
    }

    /** Refused: the status alone; else a try, too. */
    private int booked(int act, int answer) {
        status = Math.min(answer, 0);
        if (!in(answer, FULL, NONE)) {
            tries[act]++;
        }
        return answer;
    }

    // ---- racks, probes

    public int rack(int bank, int kind) {
        if (!in(bank, 0, 3)) return NONE;
        if (!in(kind, 0, 6)) return BAD;
        if (racks.size() == 12) return FULL;
        Rack r = new Rack();
        r.bank = bank;
        r.kind = kind;
        racks.add(r);
        return racks.size() - 1;
    }

    private static boolean holds(Rack r) {
        for (int i = 0; r.row != null && i < r.row.length; i++) {
            if (r.row[i] != null) return true;
        }
        return false;
    }

    public int row(int rack, int n) {
        if (!in(rack, racks)) return NONE;
        if (n > 20) return BAD;
        if (holds(racks.get(rack))) return TAKEN;
        if (n < 0) return SIZE;
        racks.get(rack).row = new Bag[n];
        return 1;
    }

    public int unrow(int rack) {
        if (!in(rack, racks)) return NONE;
        Rack r = racks.get(rack);
        if (r.row == null) return NO_ROW;
        if (holds(r)) return TAKEN;
        int had = r.row.length;
        r.row = null;
        return had;
    }

    public int probe(int rack, boolean in) {
        if (!in(rack, racks)) return NONE;
        Rack r = racks.get(rack);
        if (in == (r.readings != null)) return AS_IS;
        r.readings = in ? new ArrayList<>() : null;
        r.since = now;
        return 1;
    }

    private int comes(int rack, float reading) {
        Rack r = racks.get(rack);
        if (r.readings != null && r.readings.size() == 300) return FULL;
        if (r.readings == null) return NO_ROW;
        r.readings.add(reading);
        return r.readings.size();
    }

    public int cold(int rack, int tenths) {
        if (!in(rack, racks)) return NONE;
        if (!in(tenths, -500, 500)) return BAD;
        return comes(rack, tenths / 10f);
    }

    public int fails(int rack) {
        return in(rack, racks) ? comes(rack, Float.NaN) : NONE;
    }

    public long reading(int rack, int k) {
        if (!in(rack, racks)) throw new IndexOutOfBoundsException();
        if (racks.get(rack).readings == null) throw new IllegalStateException();
        if (!in(k, racks.get(rack).readings)) throw new IndexOutOfBoundsException();
        return Float.floatToIntBits(racks.get(rack).readings.get(k));
    }

    public int readings(int rack) {
        if (!in(rack, racks)) return NONE;
        return racks.get(rack).readings == null ? NO_ROW : racks.get(rack).readings.size();
    }

    public int minute() {
        for (Rack r : racks) {
            boolean read = r.readings != null && in(now - r.since, r.readings);
            float reading = read ? r.readings.get(now - r.since) : Float.NaN;
            for (int i = 0; r.row != null && i < r.row.length; i++) {
                if (r.row[i] != null) passIn(r.row[i], reading);
            }
        }
        for (Bag b : bags) {
            if (b.state == 0 || b.state == 2) passIn(b, Float.NaN);
        }
        return ++now;
    }

    private void passIn(Bag b, float reading) {
        b.unread += Float.isNaN(reading) ? 1 : 0;
        b.row = reading > mark(b) / 10f ? b.row + 1 : 0;
        b.warm |= b.row >= SPAN[b.kind];
    }

    // ---- bags, patients

    public int patient(int group, int antibodies) {
        if (!in(group, 0, 7) || !in(antibodies, 0, 65535)) return BAD;
        if (patients.size() == 40) return FULL;
        patients.add(new int[] {group, antibodies});
        return patients.size() - 1;
    }

    public int take(int bank, int kind, int donor, int group, int signs, int grams) {
        if (!in(bank, 0, 3)) return NONE;
        if (!in(kind, 0, 3) || !in(donor, 0, 99) || !in(group, 0, 7) || !in(signs, 0, 65535) || !in(grams, 1, 2000)) {
            return BAD;
        }
        return bags.size() == 200 ? FULL : newBag(kind, bank, donor, group, signs, grams).number;
    }

    public int send(int bag, int bank) {
        if (!in(bag, bags) || !in(bank, 0, 3)) return NONE;
        Bag b = bags.get(bag);
        if (gone(b)) return GONE;
        if (b.state == 1 || b.bank == bank) return AS_IS;
        b.bank = bank;
        return 1;
    }

    // ---- acts with racks

    public int lay(int bag, int rack, int place) {
        return booked(0, laid(bag, rack, place));
    }

    private int laid(int bag, int rack, int place) {
        if (!in(bag, bags) || !in(rack, racks)) return NONE;
        Bag b = bags.get(bag);
        Rack r = racks.get(rack);
        if (b.bank != r.bank) return BAD;
        if (gone(b)) return GONE;
        if (b.state == 1) return AS_IS;
        if (r.row == null) return NO_ROW;
        if (!in(place, 0, r.row.length - 1)) return PLACE;
        if (r.row[place] != null) return TAKEN;
        if (!is(b, r.kind)) return KIND;
        r.row[place] = b;
        b.state = 1;
        return 1;
    }

    public int lift(int rack, int place, int kind) {
        return booked(1, lifted(rack, place, kind));
    }

    private int lifted(int rack, int place, int kind) {
        if (!in(rack, racks)) return NONE;
        if (!in(kind, 0, 6)) return BAD;
        int bag = at(rack, place);
        if (bag < 0) return bag;
        if (!is(bags.get(bag), kind)) return KIND;
        become(bags.get(bag), 0);
        return bag;
    }

    public int slide(int rack, int from, int to, int n) {
        return booked(2, slid(rack, from, to, n));
    }

    private int slid(int rack, int from, int to, int n) {
        if (!in(rack, racks)) return NONE;
        Rack r = racks.get(rack);
        if (r.row == null) return NO_ROW;
        if (from < 0 || to < 0 || n < 0 || (long) from + n > r.row.length || (long) to + n > r.row.length) {
            return PLACE;
        }
        Bag[] left = r.row.clone();
        for (int i = 0; i < n; i++) {
            left[from + i] = null;
        }
        for (int i = 0; i < n; i++) {
            if (left[to + i] != null) return TAKEN;
        }
        for (int i = 0; i < n; i++) {
            left[to + i] = r.row[from + i];
        }
        r.row = left;
        return n;
    }

    // ---- acts with bags

    public int test(int bag, boolean good) {
        return booked(3, tested(bag, good));
    }

    private int tested(int bag, boolean good) {
        if (!in(bag, bags)) return NONE;
        Bag b = bags.get(bag);
        if (gone(b)) return GONE;
        if (b.tested != 0) return AS_IS;
        b.tested = good ? 1 : 2;
        return 1;
    }

    public int free(int bag) {
        return booked(4, freed(bag));
    }

    private int freed(int bag) {
        if (!in(bag, bags)) return NONE;
        Bag b = bags.get(bag);
        if (gone(b)) return GONE;
        if (b.tested == 0) return UNTESTED;
        if (b.tested == 2 || b.free) return AS_IS;
        if (b.warm) return WARM;
        if (now >= b.expires) return EXPIRED;
        if (b.recalled) return RECALLED;
        b.free = true;
        return 1;
    }

    private int heldBack(Bag b) {
        if (b.patient != NOTHING) return RESERVED;
        if (now >= b.expires) return EXPIRED;
        return b.recalled ? RECALLED : 0;
    }

    public int part(int bag) {
        return booked(5, parted(bag));
    }

    private int parted(int bag) {
        if (!in(bag, bags)) return NONE;
        if (bags.size() + 3 > 200) return FULL;
        Bag b = bags.get(bag);
        if (gone(b)) return GONE;
        if (b.kind != 0) return KIND;
        if (heldBack(b) != 0) return heldBack(b);
        int[] shares = {44 * b.grams / 100, 47 * b.grams / 100, 6 * b.grams / 100};
        b.loss = 3 * b.grams / 100;
        for (int i = 0; shares[0] + shares[1] + shares[2] + b.loss < b.grams; i = (i + 1) % 3) {
            shares[i]++;
        }
        int number = bags.size();
        for (int i = 0; i < 3; i++) {
            partOf(b, i + 1, shares[i]);
        }
        become(b, 3);
        return number;
    }

    public int tray(int bag) {
        if (!in(bag, bags)) return NONE;
        if (tray.size() == 6) return FULL;
        if (gone(bags.get(bag))) return GONE;
        if (tray.contains(bags.get(bag))) return AS_IS;
        tray.add(bags.get(bag));
        return tray.size();
    }

    public int untray() {
        int were = tray.size();
        tray.clear();
        return were;
    }

    public int pool(int kind) {
        return booked(6, pooled(kind));
    }

    private int pooled(int kind) {
        if (!in(kind, 2, 3)) return BAD;
        if (bags.size() == 200) return FULL;
        if (tray.size() < 2) return EMPTY;
        for (Bag b : tray) {
            if (gone(b)) return GONE;
            if (!is(b, kind)) return KIND;
            if (b.bank != tray.get(0).bank) return AS_IS;
            if (heldBack(b) != 0) return heldBack(b);
        }
        Bag pool = newBag(5, tray.get(0).bank, -1, 7, 0, 0);
        for (Bag b : tray) {
            pool.group &= b.group;
            pool.signs |= b.signs;
            pool.grams += b.grams;
            pool.warm |= b.warm;
            pool.from.add(b);
            b.came.add(pool);
            become(b, 4);
        }
        boolean allGood = tray.stream().allMatch(b -> b.tested == 1);
        boolean oneBad = tray.stream().anyMatch(b -> b.tested == 2);
        pool.tested = allGood ? 1 : oneBad ? 2 : 0;
        tray.clear();
        return pool.number;
    }

    public int freeze(int bag) {
        return booked(7, frozen(bag));
    }

    private int frozen(int bag) {
        if (!in(bag, bags)) return NONE;
        if (bags.size() == 200) return FULL;
        Bag b = bags.get(bag);
        if (gone(b)) return GONE;
        if (!is(b, 2)) return KIND;
        if (b.kind == 4) return AS_IS;
        if (heldBack(b) != 0) return heldBack(b);
        b.loss = b.grams / 50;
        become(b, 3);
        return partOf(b, 4, b.grams - b.loss).number;
    }

    public int thaw(int bag) {
        return booked(8, thawed(bag));
    }

    private int thawed(int bag) {
        if (!in(bag, bags)) return NONE;
        if (bags.size() == 200) return FULL;
        Bag b = bags.get(bag);
        if (gone(b)) return GONE;
        if (b.kind != 4) return KIND;
        if (heldBack(b) != 0) return heldBack(b);
        become(b, 3);
        return partOf(b, 2, b.grams).number;
    }

    public int reserve(int bag, int patient) {
        return booked(9, reserved(bag, patient));
    }

    private int reserved(int bag, int patient) {
        if (!in(bag, bags) || !in(patient, patients)) return NONE;
        Bag b = bags.get(bag);
        if (gone(b)) return GONE;
        if (b.patient != NOTHING) return RESERVED;
        if (!fitting(b, patients.get(patient))) return UNFIT;
        b.patient = patient;
        return 1;
    }

    public int release(int bag) {
        if (!in(bag, bags)) return NONE;
        if (bags.get(bag).patient == NOTHING) return AS_IS;
        bags.get(bag).patient = NOTHING;
        return 1;
    }

    public int give(int bag, int patient) {
        if (!in(bag, bags) || !in(patient, patients)) return booked(10, NONE);
        Bag b = bags.get(bag);
        int found = hindrance(b, patient);
        if (found == 0) {
            become(b, 2);
            b.away = now;
            b.patient = NOTHING;
        }
        return booked(10, found == 0 ? 1 : found);
    }

    private int hindrance(Bag b, int patient) {
        if (gone(b)) return GONE;
        if (b.tested != 1) return UNTESTED;
        if (!b.free) return UNFREE;
        if (b.warm) return WARM;
        if (now >= b.expires) return EXPIRED;
        if (b.recalled) return RECALLED;
        if (b.patient != NOTHING && b.patient != patient) return RESERVED;
        return fitting(b, patients.get(patient)) ? 0 : UNFIT;
    }

    public int home(int bag) {
        if (!in(bag, bags)) return booked(11, NONE);
        Bag b = bags.get(bag);
        if (b.state != 2) return booked(11, AS_IS);
        boolean late = now > b.away + GRACE[b.kind];
        b.state = late ? 5 : 0;
        b.away = NOTHING;
        return booked(11, late ? 0 : 1);
    }

    public int spoil(int bag) {
        if (!in(bag, bags)) return booked(12, NONE);
        if (gone(bags.get(bag))) return booked(12, GONE);
        become(bags.get(bag), 5);
        return booked(12, 1);
    }

    public int share(int bag, int n) {
        if (!in(bag, bags)) return booked(13, NONE);
        if (n < 0) return booked(13, BAD);
        if (gone(bags.get(bag))) return booked(13, GONE);
        return booked(13, n == 0 ? NOUGHT : bags.get(bag).grams / n);
    }

    /** From the donor's bags on by what came of each, until nothing more comes. */
    public int recall(int donor) {
        if (!in(donor, 0, 99)) return BAD;
        List<Bag> reached = new ArrayList<>();
        for (Bag b : bags) {
            if (b.donor == donor) reached.add(b);
        }
        for (int i = 0; i < reached.size(); i++) {
            for (Bag came : reached.get(i).came) {
                if (!reached.contains(came)) reached.add(came);
            }
        }
        TreeSet<Integer> away = new TreeSet<>();
        int fresh = 0;
        for (Bag b : reached) {
            if (b.state == 2) {
                away.add(b.number);
            } else {
                fresh += b.recalled ? 0 : 1;
                b.recalled = true;
            }
        }
        listed = new ArrayList<>();
        away.forEach(number -> listed.add(bags.get(number)));
        return fresh;
    }

    public int listed(int k) {
        return in(k, listed) ? listed.get(k).number : NONE;
    }

    // ---- questions

    public int kindOf(int bag) {
        return in(bag, bags) ? bags.get(bag).kind : NONE;
    }

    public int state(int bag) {
        return in(bag, bags) ? bags.get(bag).state : NONE;
    }

    public int told(int bag, int what) {
        if (!in(bag, bags)) return NONE;
        if (!in(what, 0, 16)) return BAD;
        Bag b = bags.get(bag);
        int rack = rackOf(b);
        int place = rack == NOTHING ? NOTHING : placeOf(b, racks.get(rack));
        int[] told = {b.tested, b.free ? 1 : 0, b.warm ? 1 : 0, b.recalled ? 1 : 0, b.patient, b.donor, b.group,
            b.signs, b.grams, b.loss, b.expires, b.unread, b.row, b.bank, rack, place, b.away};
        return told[what];
    }

    public int bodies(int bag, int what) {
        if (!in(bag, bags)) return NONE;
        if (!in(what, 0, 6)) return BAD;
        int[][] all = {null, SPAN, LIFE, GRACE, CODE, TWICE, RANK};
        return what == 0 ? mark(bags.get(bag)) : all[what][bags.get(bag).kind];
    }

    public int came(int bag, int k) {
        return in(bag, bags) && in(k, bags.get(bag).came) ? bags.get(bag).came.get(k).number : NONE;
    }

    public int from(int bag, int k) {
        return in(bag, bags) && in(k, bags.get(bag).from) ? bags.get(bag).from.get(k).number : NONE;
    }

    public int at(int rack, int place) {
        if (!in(rack, racks)) return NONE;
        Bag[] row = racks.get(rack).row;
        if (row == null) return NO_ROW;
        if (!in(place, 0, row.length - 1)) return PLACE;
        return row[place] == null ? EMPTY : row[place].number;
    }

    public int places(int rack) {
        if (!in(rack, racks)) return NONE;
        return racks.get(rack).row == null ? NO_ROW : racks.get(rack).row.length;
    }

    public int fits(int bag, int patient) {
        if (!in(bag, bags) || !in(patient, patients)) return NONE;
        return fitting(bags.get(bag), patients.get(patient)) ? 1 : 0;
    }

    public int match(int patient, int kind) {
        if (!in(patient, patients)) return NONE;
        if (!in(kind, 0, 5)) return BAD;
        Bag best = null;
        for (Bag b : bags) {
            if (is(b, kind) && hindrance(b, patient) == 0 && (best == null || b.expires < best.expires)) {
                best = b;
            }
        }
        return best == null ? EMPTY : best.number;
    }

    public int stock(int bank, int kind) {
        if (!in(bank, 0, 3)) return NONE;
        if (!in(kind, 0, 6)) return BAD;
        return (int) bags.stream().filter(b -> b.bank == bank && b.state < 2 && is(b, kind)).count();
    }

    public int tries(int act) {
        return in(act, 0, 13) ? tries[act] : BAD;
    }

    public int locked() {
        return 0;
    }

    public int status() {
        return status;
    }

    public int count(int what) {
        int[] counts = {racks.size(), bags.size(), patients.size(), now, tray.size()};
        return in(what, 0, 4) ? counts[what] : BAD;
    }

    public long digest() {
        long h = 7;
        for (int bag = 0; bag < bags.size(); bag++) {
            for (int what = 0; what <= 16; what++) {
                h = 31 * h + told(bag, what);
            }
        }
        return h;
    }

    public int clear() {
        int were = bags.size();
        racks.clear();
        bags.clear();
        patients.clear();
        tray.clear();
        listed.clear();
        tries = new int[14];
        now = 0;
        status = 0;
        return were;
    }
}
