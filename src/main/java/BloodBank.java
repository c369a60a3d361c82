/** A blood bank in told minutes. What each call promises stands in the document, DOC.md. */
public final class BloodBank {
    public static final int NONE = -1, BAD = -2, FULL = -3;
    public static final int NO_ROW = -11, PLACE = -12, KIND = -13, EMPTY = -14, TAKEN = -15, SIZE = -16,
        NOUGHT = -17, GONE = -18, UNTESTED = -19, UNFREE = -20, WARM = -21, EXPIRED = -22, RECALLED = -23,
        RESERVED = -24, UNFIT = -25, AS_IS = -26;

    private static final int BANKS = 4, MAX_RACKS = 12, MAX_BAGS = 200, MAX_PATIENTS = 40;
    private static final int MAX_PLACES = 20, MAX_READINGS = 300, TRAY_SIZE = 6;
    private static final int DONORS = 100, GROUPS = 8, MOST_SIGNS = 65535, MOST_GRAMS = 2000, MOST_TENTHS = 500;
    private static final int GROUP_A_B = 3;

    private static final int ACT_LAY = 0, ACT_LIFT = 1, ACT_SLIDE = 2, ACT_TEST = 3, ACT_FREE = 4, ACT_PART = 5,
        ACT_POOL = 6, ACT_FREEZE = 7, ACT_THAW = 8, ACT_RESERVE = 9, ACT_GIVE = 10, ACT_HOME = 11, ACT_SPOIL = 12,
        ACT_SHARE = 13, ACTS = 14;

    private static final int ON_BENCH = 0, IN_RACK = 1, AWAY = 2, PARTED = 3, POOLED = 4, SPOILT = 5;
    private static final int UNKNOWN = 0, GOOD = 1, POOR = 2;

    /** Told where there is no patient, rack, place or minute. */
    private static final int NOTHING = -9;
    private static final int NO_DONOR = -1;
    private static final int VACANT = -1;
    private static final int FOUND_NOTHING = 0;

    /** Stands among readings in tenths for one that is no number; no told reading reaches it. */
    private static final int NO_NUMBER = 9999;
    private static final long NO_NUMBER_FORM = 2143289344L;
    private static final int SIGN_BIT = 1 << 31;

    private final Rack[] racks = new Rack[MAX_RACKS];
    private final Bag[] bags = new Bag[MAX_BAGS];
    private final int[] patientGroups = new int[MAX_PATIENTS];
    private final int[] patientAntibodies = new int[MAX_PATIENTS];
    private final int[] onTray = new int[TRAY_SIZE];
    private final int[] listedBags = new int[MAX_BAGS];
    private final boolean[] traced = new boolean[MAX_BAGS];
    private final int[] triesOf = new int[ACTS];
    private int rackCount;
    private int bagCount;
    private int patientCount;
    private int trayCount;
    private int listedCount;
    private int now;
    private int latest;

    public BloodBank() {
        for (int i = 0; i < MAX_RACKS; i++) {
            racks[i] = new Rack();
        }
        for (int i = 0; i < MAX_BAGS; i++) {
            bags[i] = new Bag();
        }
    }

    // ---- racks, probes

    public int rack(int bank, int kind) {
        if (!isBank(bank)) {
            return NONE;
        }
        if (!isWithin(kind, 0, Kinds.ALL)) {
            return BAD;
        }
        if (rackCount >= MAX_RACKS) {
            return FULL;
        }
        racks[rackCount].set(bank, kind);
        rackCount++;
        return rackCount - 1;
    }

    public int row(int rack, int n) {
        Rack r = rackOf(rack);
        if (r == null) {
            return NONE;
        }
        if (n > MAX_PLACES) {
            return BAD;
        }
        if (r.holdsBag()) {
            return TAKEN;
        }
        if (n < 0) {
            return SIZE;
        }
        r.makeRow(n);
        return 1;
    }

    public int unrow(int rack) {
        Rack r = rackOf(rack);
        if (r == null) {
            return NONE;
        }
        if (!r.hasRow) {
            return NO_ROW;
        }
        if (r.holdsBag()) {
            return TAKEN;
        }
        return r.dropRow();
    }

    public int probe(int rack, boolean in) {
        Rack r = rackOf(rack);
        if (r == null) {
            return NONE;
        }
        if (r.hasProbe == in) {
            return AS_IS;
        }
        r.setProbe(in, now);
        return 1;
    }

    public int cold(int rack, int tenths) {
        Rack r = rackOf(rack);
        if (r == null) {
            return NONE;
        }
        if (!isWithin(tenths, -MOST_TENTHS, MOST_TENTHS)) {
            return BAD;
        }
        return r.addReading(tenths);
    }

    public int fails(int rack) {
        Rack r = rackOf(rack);
        return r == null ? NONE : r.addReading(NO_NUMBER);
    }

    public long reading(int rack, int k) throws IndexOutOfBoundsException, IllegalStateException {
        Rack r = rackOf(rack);
        if (r == null) {
            throw new IndexOutOfBoundsException("no such rack");
        }
        if (!r.hasProbe) {
            throw new IllegalStateException("no probe");
        }
        if (!r.hasReading(k)) {
            throw new IndexOutOfBoundsException("no such reading");
        }
        return formOf(r.readingAt(k));
    }

    public int readings(int rack) {
        Rack r = rackOf(rack);
        if (r == null) {
            return NONE;
        }
        return r.hasProbe ? r.readingCount : NO_ROW;
    }

    public int minute() {
        for (int i = 0; i < bagCount; i++) {
            passMinute(bags[i]);
        }
        now++;
        return now;
    }

    // ---- bags, patients

    public int patient(int group, int antibodies) {
        if (!isWithin(group, 0, GROUPS - 1) || !isWithin(antibodies, 0, MOST_SIGNS)) {
            return BAD;
        }
        if (patientCount >= MAX_PATIENTS) {
            return FULL;
        }
        patientGroups[patientCount] = group;
        patientAntibodies[patientCount] = antibodies;
        patientCount++;
        return patientCount - 1;
    }

    public int take(int bank, int kind, int donor, int group, int signs, int grams) {
        if (!isBank(bank)) {
            return NONE;
        }
        if (!isWithin(kind, Kinds.WHOLE, Kinds.PLATELETS) || !isWithin(donor, 0, DONORS - 1)
                || !isWithin(group, 0, GROUPS - 1) || !isWithin(signs, 0, MOST_SIGNS)
                || !isWithin(grams, 1, MOST_GRAMS)) {
            return BAD;
        }
        if (!hasRoomFor(1)) {
            return FULL;
        }
        int number = addBag(kind, bank, grams);
        bags[number].comeFromDonor(donor, group, signs);
        return number;
    }

    public int send(int bag, int bank) {
        Bag b = bagOf(bag);
        if (b == null || !isBank(bank)) {
            return NONE;
        }
        if (b.isGone()) {
            return GONE;
        }
        if (b.state == IN_RACK || b.bank == bank) {
            return AS_IS;
        }
        b.bank = bank;
        return 1;
    }

    // ---- acts with racks

    public int lay(int bag, int rack, int place) {
        Bag b = bagOf(bag);
        Rack r = rackOf(rack);
        if (b == null || r == null) {
            return refuse(NONE);
        }
        if (b.bank != r.bank) {
            return refuse(BAD);
        }
        begin(ACT_LAY, r);
        int found = findForLay(b, r, place);
        if (found == FOUND_NOTHING) {
            r.put(place, bag);
            b.lieIn(rack, place);
        }
        return end(r, found == FOUND_NOTHING ? 1 : found);
    }

    public int lift(int rack, int place, int kind) {
        Rack r = rackOf(rack);
        if (r == null) {
            return refuse(NONE);
        }
        if (!isWithin(kind, 0, Kinds.ALL)) {
            return refuse(BAD);
        }
        begin(ACT_LIFT, r);
        return end(r, takeOut(r, place, kind));
    }

    public int slide(int rack, int from, int to, int n) {
        Rack r = rackOf(rack);
        if (r == null) {
            return refuse(NONE);
        }
        begin(ACT_SLIDE, r);
        int found = r.findForSlide(from, to, n);
        if (found == FOUND_NOTHING) {
            r.shift(from, to, n);
            tellPlaces(r);
        }
        return end(r, found == FOUND_NOTHING ? n : found);
    }

    // ---- acts with bags

    public int test(int bag, boolean good) {
        Bag b = bagOf(bag);
        if (b == null) {
            return refuse(NONE);
        }
        Rack r = begin(ACT_TEST, rackOf(b.rack));
        int found = findForTest(b);
        if (found == FOUND_NOTHING) {
            b.tested = good ? GOOD : POOR;
        }
        return end(r, found == FOUND_NOTHING ? 1 : found);
    }

    public int free(int bag) {
        Bag b = bagOf(bag);
        if (b == null) {
            return refuse(NONE);
        }
        Rack r = begin(ACT_FREE, rackOf(b.rack));
        int found = findForFree(b);
        if (found == FOUND_NOTHING) {
            b.free = true;
        }
        return end(r, found == FOUND_NOTHING ? 1 : found);
    }

    public int part(int bag) {
        Bag b = bagOf(bag);
        if (b == null) {
            return refuse(NONE);
        }
        if (!hasRoomFor(3)) {
            return refuse(FULL);
        }
        Rack r = begin(ACT_PART, rackOf(b.rack));
        int found = findForPart(b);
        return end(r, found == FOUND_NOTHING ? splitWhole(bag, b) : found);
    }

    public int tray(int bag) {
        Bag b = bagOf(bag);
        if (b == null) {
            return NONE;
        }
        if (trayCount >= TRAY_SIZE) {
            return FULL;
        }
        if (b.isGone()) {
            return GONE;
        }
        if (isOnTray(bag)) {
            return AS_IS;
        }
        onTray[trayCount] = bag;
        trayCount++;
        return trayCount;
    }

    public int untray() {
        int were = trayCount;
        trayCount = 0;
        return were;
    }

    public int pool(int kind) {
        if (kind != Kinds.PLASMA && kind != Kinds.PLATELETS) {
            return refuse(BAD);
        }
        if (!hasRoomFor(1)) {
            return refuse(FULL);
        }
        begin(ACT_POOL, null);
        int found = findForPool(kind);
        return end(null, found == FOUND_NOTHING ? poolTray() : found);
    }

    public int freeze(int bag) {
        Bag b = bagOf(bag);
        if (b == null) {
            return refuse(NONE);
        }
        if (!hasRoomFor(1)) {
            return refuse(FULL);
        }
        Rack r = begin(ACT_FREEZE, rackOf(b.rack));
        int found = findForFreeze(b);
        return end(r, found == FOUND_NOTHING ? turnInto(Kinds.FROZEN, bag, b, b.grams / 50) : found);
    }

    public int thaw(int bag) {
        Bag b = bagOf(bag);
        if (b == null) {
            return refuse(NONE);
        }
        if (!hasRoomFor(1)) {
            return refuse(FULL);
        }
        Rack r = begin(ACT_THAW, rackOf(b.rack));
        int found = findForThaw(b);
        return end(r, found == FOUND_NOTHING ? turnInto(Kinds.PLASMA, bag, b, 0) : found);
    }

    public int reserve(int bag, int patient) {
        Bag b = bagOf(bag);
        if (b == null || !isPatient(patient)) {
            return refuse(NONE);
        }
        Rack r = begin(ACT_RESERVE, rackOf(b.rack));
        int found = findForReserve(b, patient);
        if (found == FOUND_NOTHING) {
            b.reservedFor = patient;
        }
        return end(r, found == FOUND_NOTHING ? 1 : found);
    }

    public int release(int bag) {
        Bag b = bagOf(bag);
        if (b == null) {
            return NONE;
        }
        if (!b.isReserved()) {
            return AS_IS;
        }
        b.reservedFor = NOTHING;
        return 1;
    }

    public int give(int bag, int patient) {
        Bag b = bagOf(bag);
        if (b == null || !isPatient(patient)) {
            return refuse(NONE);
        }
        Rack r = begin(ACT_GIVE, rackOf(b.rack));
        int found = findForGive(b, patient);
        if (found == FOUND_NOTHING) {
            leavePlace(b, AWAY);
            b.awayFrom = now;
            b.reservedFor = NOTHING;
        }
        return end(r, found == FOUND_NOTHING ? 1 : found);
    }

    public int home(int bag) {
        Bag b = bagOf(bag);
        if (b == null) {
            return refuse(NONE);
        }
        Rack r = begin(ACT_HOME, rackOf(b.rack));
        return end(r, b.state == AWAY ? bringHome(b) : AS_IS);
    }

    public int spoil(int bag) {
        Bag b = bagOf(bag);
        if (b == null) {
            return refuse(NONE);
        }
        Rack r = begin(ACT_SPOIL, rackOf(b.rack));
        int found = b.isGone() ? GONE : FOUND_NOTHING;
        if (found == FOUND_NOTHING) {
            leavePlace(b, SPOILT);
        }
        return end(r, found == FOUND_NOTHING ? 1 : found);
    }

    public int share(int bag, int n) {
        Bag b = bagOf(bag);
        if (b == null) {
            return refuse(NONE);
        }
        if (n < 0) {
            return refuse(BAD);
        }
        Rack r = begin(ACT_SHARE, rackOf(b.rack));
        return end(r, gramsForEach(b, n));
    }

    public int recall(int donor) {
        if (!isWithin(donor, 0, DONORS - 1)) {
            return BAD;
        }
        listedCount = 0;
        int fresh = 0;
        // A bag has a higher number than all that it came from, so one walk reaches parts of parts.
        for (int i = 0; i < bagCount; i++) {
            traced[i] = bags[i].donor == donor || cameOfTraced(bags[i]);
            if (traced[i]) {
                fresh += recallOrList(i);
            }
        }
        return fresh;
    }

    public int listed(int k) {
        return isWithin(k, 0, listedCount - 1) ? listedBags[k] : NONE;
    }

    // ---- questions

    public int kindOf(int bag) {
        Bag b = bagOf(bag);
        return b == null ? NONE : b.kind;
    }

    public int state(int bag) {
        Bag b = bagOf(bag);
        return b == null ? NONE : b.state;
    }

    public int told(int bag, int what) {
        Bag b = bagOf(bag);
        return b == null ? NONE : b.tell(what);
    }

    public int bodies(int bag, int what) {
        Bag b = bagOf(bag);
        if (b == null) {
            return NONE;
        }
        switch (what) {
            case 0: return markOf(b);
            case 1: return Kinds.span(b.kind);
            case 2: return Kinds.life(b.kind);
            case 3: return Kinds.grace(b.kind);
            case 4: return Kinds.code(b.kind);
            case 5: return Kinds.twice(b.kind);
            case 6: return Kinds.rank(b.kind);
            default: return BAD;
        }
    }

    public int came(int bag, int k) {
        if (bagOf(bag) == null || k < 0) {
            return NONE;
        }
        int before = 0;
        for (int i = 0; i < bagCount; i++) {
            if (bags[i].hasSource(bag)) {
                if (before == k) {
                    return i;
                }
                before++;
            }
        }
        return NONE;
    }

    public int from(int bag, int k) {
        Bag b = bagOf(bag);
        return b == null ? NONE : b.source(k);
    }

    public int at(int rack, int place) {
        Rack r = rackOf(rack);
        if (r == null) {
            return NONE;
        }
        int found = r.findForPlace(place);
        return found == FOUND_NOTHING ? r.bagIn(place) : found;
    }

    public int places(int rack) {
        Rack r = rackOf(rack);
        if (r == null) {
            return NONE;
        }
        return r.hasRow ? r.size : NO_ROW;
    }

    public int fits(int bag, int patient) {
        Bag b = bagOf(bag);
        if (b == null || !isPatient(patient)) {
            return NONE;
        }
        return suits(b, patient) ? 1 : 0;
    }

    public int match(int patient, int kind) {
        if (!isPatient(patient)) {
            return NONE;
        }
        if (!isWithin(kind, Kinds.WHOLE, Kinds.POOL)) {
            return BAD;
        }
        int best = EMPTY;
        for (int i = 0; i < bagCount; i++) {
            Bag b = bags[i];
            if (Kinds.isA(b.kind, kind) && findForGive(b, patient) == FOUND_NOTHING
                    && (best == EMPTY || b.expires < bags[best].expires)) {
                best = i;
            }
        }
        return best;
    }

    public int stock(int bank, int kind) {
        if (!isBank(bank)) {
            return NONE;
        }
        if (!isWithin(kind, 0, Kinds.ALL)) {
            return BAD;
        }
        int held = 0;
        for (int i = 0; i < bagCount; i++) {
            Bag b = bags[i];
            if (b.bank == bank && !b.isGone() && Kinds.isA(b.kind, kind)) {
                held++;
            }
        }
        return held;
    }

    public int tries(int act) {
        return isWithin(act, 0, ACTS - 1) ? triesOf[act] : BAD;
    }

    public int locked() {
        int held = 0;
        for (int i = 0; i < rackCount; i++) {
            if (racks[i].locked) {
                held++;
            }
        }
        return held;
    }

    public int status() {
        return latest;
    }

    public int count(int what) {
        switch (what) {
            case 0: return rackCount;
            case 1: return bagCount;
            case 2: return patientCount;
            case 3: return now;
            case 4: return trayCount;
            default: return BAD;
        }
    }

    public long digest() {
        long h = 7;
        for (int i = 0; i < bagCount; i++) {
            for (int what = 0; what < Bag.TOLD; what++) {
                h = 31 * h + bags[i].tell(what);
            }
        }
        return h;
    }

    public int clear() {
        int were = bagCount;
        rackCount = 0;
        bagCount = 0;
        patientCount = 0;
        trayCount = 0;
        listedCount = 0;
        now = 0;
        latest = 0;
        for (int i = 0; i < ACTS; i++) {
            triesOf[i] = 0;
        }
        return were;
    }

    // ---- what is there

    private static boolean isWithin(int n, int least, int most) {
        return n >= least && n <= most;
    }

    private static boolean isBank(int n) {
        return isWithin(n, 0, BANKS - 1);
    }

    private boolean isPatient(int n) {
        return isWithin(n, 0, patientCount - 1);
    }

    private Rack rackOf(int n) {
        return isWithin(n, 0, rackCount - 1) ? racks[n] : null;
    }

    private Bag bagOf(int n) {
        return isWithin(n, 0, bagCount - 1) ? bags[n] : null;
    }

    private boolean hasRoomFor(int more) {
        return bagCount <= MAX_BAGS - more;
    }

    private boolean isOnTray(int bag) {
        for (int i = 0; i < trayCount; i++) {
            if (onTray[i] == bag) {
                return true;
            }
        }
        return false;
    }

    // ---- how acts begin and end

    private int refuse(int why) {
        latest = why;
        return why;
    }

    /** Answers the rack it locked: the bag may have left that rack when the act ends. */
    private Rack begin(int act, Rack r) {
        triesOf[act]++;
        if (r != null) {
            r.locked = true;
        }
        return r;
    }

    /** Findings alone are below 0, so the answer itself tells whether the act was done. */
    private int end(Rack r, int answer) {
        if (r != null) {
            r.locked = false;
        }
        latest = answer < 0 ? answer : 0;
        return answer;
    }

    // ---- findings

    private int findForLay(Bag b, Rack r, int place) {
        if (b.isGone()) {
            return GONE;
        }
        if (b.state == IN_RACK) {
            return AS_IS;
        }
        int found = r.findForPlace(place);
        if (found != EMPTY) {
            return found == FOUND_NOTHING ? TAKEN : found;
        }
        return Kinds.isA(b.kind, r.kind) ? FOUND_NOTHING : KIND;
    }

    private static int findForTest(Bag b) {
        if (b.isGone()) {
            return GONE;
        }
        return b.tested == UNKNOWN ? FOUND_NOTHING : AS_IS;
    }

    private int findForFree(Bag b) {
        if (b.isGone()) {
            return GONE;
        }
        if (b.tested == UNKNOWN) {
            return UNTESTED;
        }
        if (b.tested == POOR || b.free) {
            return AS_IS;
        }
        return findUnsound(b);
    }

    private int findForPart(Bag b) {
        if (b.isGone()) {
            return GONE;
        }
        if (b.kind != Kinds.WHOLE) {
            return KIND;
        }
        return findHeldBack(b);
    }

    private int findForPool(int kind) {
        if (trayCount < 2) {
            return EMPTY;
        }
        int bank = bags[onTray[0]].bank;
        for (int i = 0; i < trayCount; i++) {
            int found = findForPooled(bags[onTray[i]], kind, bank);
            if (found != FOUND_NOTHING) {
                return found;
            }
        }
        return FOUND_NOTHING;
    }

    private int findForPooled(Bag b, int kind, int bank) {
        if (b.isGone()) {
            return GONE;
        }
        if (!Kinds.isA(b.kind, kind)) {
            return KIND;
        }
        if (b.bank != bank) {
            return AS_IS;
        }
        return findHeldBack(b);
    }

    private int findForFreeze(Bag b) {
        if (b.isGone()) {
            return GONE;
        }
        if (!Kinds.isA(b.kind, Kinds.PLASMA)) {
            return KIND;
        }
        if (b.kind == Kinds.FROZEN) {
            return AS_IS;
        }
        return findHeldBack(b);
    }

    private int findForThaw(Bag b) {
        if (b.isGone()) {
            return GONE;
        }
        if (b.kind != Kinds.FROZEN) {
            return KIND;
        }
        return findHeldBack(b);
    }

    private int findForReserve(Bag b, int patient) {
        if (b.isGone()) {
            return GONE;
        }
        if (b.isReserved()) {
            return RESERVED;
        }
        return suits(b, patient) ? FOUND_NOTHING : UNFIT;
    }

    private int findForGive(Bag b, int patient) {
        if (b.isGone()) {
            return GONE;
        }
        if (b.tested != GOOD) {
            return UNTESTED;
        }
        if (!b.free) {
            return UNFREE;
        }
        int found = findUnsound(b);
        if (found != FOUND_NOTHING) {
            return found;
        }
        if (b.isReserved() && b.reservedFor != patient) {
            return RESERVED;
        }
        return suits(b, patient) ? FOUND_NOTHING : UNFIT;
    }

    private int findUnsound(Bag b) {
        return b.warm ? WARM : findOutdated(b);
    }

    private int findHeldBack(Bag b) {
        return b.isReserved() ? RESERVED : findOutdated(b);
    }

    private int findOutdated(Bag b) {
        if (now >= b.expires) {
            return EXPIRED;
        }
        return b.recalled ? RECALLED : FOUND_NOTHING;
    }

    // ---- what acts do

    private int takeOut(Rack r, int place, int kind) {
        int found = r.findForPlace(place);
        if (found != FOUND_NOTHING) {
            return found;
        }
        int number = r.bagIn(place);
        Bag b = bagOf(number);
        if (b == null) {
            return EMPTY;
        }
        if (!Kinds.isA(b.kind, kind)) {
            return KIND;
        }
        leavePlace(b, ON_BENCH);
        return number;
    }

    private void leavePlace(Bag b, int state) {
        Rack r = rackOf(b.rack);
        if (r != null) {
            r.put(b.place, VACANT);
        }
        b.lieNowhere(state);
    }

    private void tellPlaces(Rack r) {
        for (int place = 0; place < r.size; place++) {
            Bag b = bagOf(r.bagIn(place));
            if (b != null) {
                b.place = place;
            }
        }
    }

    /** Only behind hasRoomFor(). */
    private int addBag(int kind, int bank, int grams) {
        bags[bagCount].set(kind, bank, grams, now + Kinds.life(kind));
        bagCount++;
        return bagCount - 1;
    }

    private int addPart(int kind, int whole, int grams) {
        Bag source = bags[whole];
        int number = addBag(kind, source.bank, grams);
        bags[number].comeFromBag(whole, source);
        return number;
    }

    private int splitWhole(int bag, Bag b) {
        int cells = b.grams * 44 / 100;
        int plasma = b.grams * 47 / 100;
        int platelets = b.grams * 6 / 100;
        int loss = b.grams * 3 / 100;
        // Four cut numbers leave three grams at most: one for each part.
        int left = b.grams - cells - plasma - platelets - loss;
        int first = addPart(Kinds.CELLS, bag, cells + (left > 0 ? 1 : 0));
        addPart(Kinds.PLASMA, bag, plasma + (left > 1 ? 1 : 0));
        addPart(Kinds.PLATELETS, bag, platelets + (left > 2 ? 1 : 0));
        b.loss = loss;
        leavePlace(b, PARTED);
        return first;
    }

    private int turnInto(int kind, int bag, Bag b, int loss) {
        int number = addPart(kind, bag, b.grams - loss);
        b.loss = loss;
        leavePlace(b, PARTED);
        return number;
    }

    private int poolTray() {
        int number = addBag(Kinds.POOL, bags[onTray[0]].bank, 0);
        Bag pooled = bags[number];
        pooled.comeFromDonor(NO_DONOR, GROUPS - 1, 0);
        pooled.tested = GOOD;
        for (int i = 0; i < trayCount; i++) {
            Bag b = bags[onTray[i]];
            pooled.mixIn(i, onTray[i], b);
            leavePlace(b, POOLED);
        }
        trayCount = 0;
        return number;
    }

    private int bringHome(Bag b) {
        boolean tooLong = now - b.awayFrom > Kinds.grace(b.kind);
        b.lieNowhere(tooLong ? SPOILT : ON_BENCH);
        return tooLong ? 0 : 1;
    }

    private static int gramsForEach(Bag b, int n) {
        if (b.isGone()) {
            return GONE;
        }
        return n == 0 ? NOUGHT : b.grams / n;
    }

    private boolean cameOfTraced(Bag b) {
        for (int i = 0; i < TRAY_SIZE; i++) {
            int source = b.source(i);
            if (source != NONE && traced[source]) {
                return true;
            }
        }
        return false;
    }

    private int recallOrList(int bag) {
        Bag b = bags[bag];
        if (b.state == AWAY) {
            listedBags[listedCount] = bag;
            listedCount++;
            return 0;
        }
        int fresh = b.recalled ? 0 : 1;
        b.recalled = true;
        return fresh;
    }

    private void passMinute(Bag b) {
        if (b.state == IN_RACK) {
            Rack r = rackOf(b.rack);
            b.passRead(r == null ? NO_NUMBER : r.readingOfMinute(now), markOf(b));
        } else if (b.state == ON_BENCH || b.state == AWAY) {
            b.passUnread();
        }
    }

    // ---- by kinds, where a pool asks those that it was made of

    private int markOf(Bag b) {
        if (b.kind != Kinds.POOL) {
            return Kinds.mark(b.kind);
        }
        int least = MOST_TENTHS;
        for (int i = 0; i < TRAY_SIZE; i++) {
            Bag source = bagOf(b.source(i));
            if (source != null) {
                least = Math.min(least, Kinds.mark(source.kind));
            }
        }
        return least;
    }

    private boolean suits(Bag b, int patient) {
        int group = patientGroups[patient];
        int antibodies = patientAntibodies[patient];
        if (b.kind != Kinds.POOL) {
            return b.goesWith(group, antibodies);
        }
        for (int i = 0; i < TRAY_SIZE; i++) {
            Bag source = bagOf(b.source(i));
            if (source != null && !source.goesWith(group, antibodies)) {
                return false;
            }
        }
        return true;
    }

    /** The 32 bits of tenths / 10 as a float, made from whole numbers: the library's own way is not open here. */
    private static long formOf(int tenths) {
        if (tenths == NO_NUMBER) {
            return NO_NUMBER_FORM;
        }
        if (tenths == 0) {
            return 0;
        }
        long size = tenths < 0 ? -tenths : tenths;
        // From 0.1, at or above 2^-4, to 50.0, below 2^6.
        int exponent = -4;
        while (exponent < 5 && (size << 4) >= (10L << (exponent + 5))) {
            exponent++;
        }
        // An even number is never half way between two tens, so there is no tie to settle.
        // The significand's highest bit, which the form leaves out, makes the 126 of the exponent 127.
        long significand = ((size << (23 - exponent)) + 5) / 10;
        int bits = (int) (((exponent + 126L) << 23) + significand);
        return tenths < 0 ? bits | SIGN_BIT : bits;
    }

    /** What holds for a kind, whichever bag it is. */
    private static final class Kinds {
        private static final int WHOLE = 0, CELLS = 1, PLASMA = 2, PLATELETS = 3, FROZEN = 4, POOL = 5, ALL = 6;
        private static final int BAG_CODE = 1;
        private static final int PLASMA_CODE = 10 * BAG_CODE + 2;

        private static boolean isA(int kind, int asked) {
            return asked == ALL || kind == asked || kind == FROZEN && asked == PLASMA;
        }

        /** Not of a pool, whose mark is that of its sources. */
        private static int mark(int kind) {
            switch (kind) {
                case PLASMA: return 80;
                case PLATELETS: return 240;
                case FROZEN: return -180;
                default: return 60;
            }
        }

        private static int span(int kind) {
            switch (kind) {
                case PLASMA: return 5;
                case PLATELETS: return 8;
                case FROZEN: return 2;
                case POOL: return 4;
                default: return 3;
            }
        }

        private static int life(int kind) {
            switch (kind) {
                case CELLS: return 160;
                case PLASMA: return 90;
                case PLATELETS: return 40;
                case FROZEN: return 600;
                case POOL: return 30;
                default: return 120;
            }
        }

        private static int grace(int kind) {
            int usual = span(kind) + 2;
            switch (kind) {
                case FROZEN: return usual / 2;
                case POOL: return 1;
                default: return usual;
            }
        }

        private static int code(int kind) {
            switch (kind) {
                case CELLS: return 4;
                case PLASMA: return PLASMA_CODE;
                case FROZEN: return 10 * PLASMA_CODE + 3;
                case POOL: return 10 * BAG_CODE - 5;
                default: return BAG_CODE;
            }
        }

        private static int twice(int kind) {
            int usual = 2 * code(kind);
            return kind == PLATELETS ? usual + 7 : usual;
        }

        private static int rank(int kind) {
            switch (kind) {
                case WHOLE: return 31 + code(kind);
                case POOL: return 45;
                default: return 30;
            }
        }
    }

    private static final class Bag {
        private static final int TOLD = 17;

        private int kind;
        private int donor;
        private int group;
        private int signs;
        private int grams;
        private int loss;
        private int expires;
        private int tested;
        private boolean free;
        private boolean warm;
        private boolean recalled;
        private int reservedFor;
        private int state;
        private int bank;
        private int rack;
        private int place;
        private int awayFrom;
        private int unread;
        private int warmRow;
        private final int[] sources = new int[TRAY_SIZE];

        /** Sets all but what comeFrom..() does: the object may have been another bag before clear(). */
        private void set(int newKind, int newBank, int newGrams, int expiry) {
            kind = newKind;
            bank = newBank;
            grams = newGrams;
            expires = expiry;
            loss = 0;
            tested = UNKNOWN;
            free = false;
            warm = false;
            recalled = false;
            reservedFor = NOTHING;
            unread = 0;
            warmRow = 0;
            for (int i = 0; i < TRAY_SIZE; i++) {
                sources[i] = NONE;
            }
            lieNowhere(ON_BENCH);
        }

        private void comeFromDonor(int newDonor, int newGroup, int newSigns) {
            donor = newDonor;
            group = newGroup;
            signs = newSigns;
        }

        private void comeFromBag(int number, Bag source) {
            comeFromDonor(source.donor, source.group, source.signs);
            tested = source.tested;
            warm = source.warm;
            sources[0] = number;
        }

        /** One more source of a pool: a single bad one makes it bad, else a single untested one untested. */
        private void mixIn(int k, int number, Bag source) {
            if (isWithin(k, 0, TRAY_SIZE - 1)) {
                sources[k] = number;
            }
            group &= source.group;
            signs |= source.signs;
            grams += source.grams;
            warm |= source.warm;
            if (source.tested == POOR || tested == GOOD) {
                tested = source.tested;
            }
        }

        private boolean isGone() {
            return state != ON_BENCH && state != IN_RACK;
        }

        private boolean isReserved() {
            return reservedFor != NOTHING;
        }

        private int source(int k) {
            return isWithin(k, 0, TRAY_SIZE - 1) ? sources[k] : NONE;
        }

        private boolean hasSource(int number) {
            for (int i = 0; i < TRAY_SIZE; i++) {
                if (sources[i] == number) {
                    return true;
                }
            }
            return false;
        }

        private void lieIn(int newRack, int newPlace) {
            state = IN_RACK;
            rack = newRack;
            place = newPlace;
        }

        private void lieNowhere(int newState) {
            state = newState;
            rack = NOTHING;
            place = NOTHING;
            awayFrom = NOTHING;
        }

        private void passUnread() {
            unread++;
            warmRow = 0;
        }

        private void passRead(int tenths, int mark) {
            if (tenths == NO_NUMBER) {
                passUnread();
            } else if (tenths > mark) {
                warmRow++;
                warm |= warmRow >= Kinds.span(kind);
            } else {
                warmRow = 0;
            }
        }

        /** Not for a pool, of which each source is asked. */
        private boolean goesWith(int patientGroup, int antibodies) {
            boolean alike = (group & GROUP_A_B) == (patientGroup & GROUP_A_B);
            boolean within = (group & ~patientGroup) == 0;
            boolean unsigned = (signs & antibodies) == 0;
            switch (kind) {
                case Kinds.WHOLE: return alike && within && unsigned;
                case Kinds.CELLS: return within && unsigned;
                case Kinds.PLATELETS: return alike;
                default: return (patientGroup & GROUP_A_B & ~group) == 0;
            }
        }

        private int tell(int what) {
            switch (what) {
                case 0: return tested;
                case 1: return free ? 1 : 0;
                case 2: return warm ? 1 : 0;
                case 3: return recalled ? 1 : 0;
                case 4: return reservedFor;
                case 5: return donor;
                case 6: return group;
                case 7: return signs;
                case 8: return grams;
                case 9: return loss;
                case 10: return expires;
                case 11: return unread;
                case 12: return warmRow;
                case 13: return bank;
                case 14: return rack;
                case 15: return place;
                case 16: return awayFrom;
                default: return BAD;
            }
        }
    }

    private static final class Rack {
        private int bank;
        private int kind;
        private boolean locked;
        private boolean hasRow;
        private int size;
        private boolean hasProbe;
        private int probedFrom;
        private int readingCount;
        private final int[] row = new int[MAX_PLACES];
        private final int[] tenthsRow = new int[MAX_READINGS];

        /** Sets all but the lock, which no act leaves: the object may have been another rack before clear(). */
        private void set(int newBank, int newKind) {
            bank = newBank;
            kind = newKind;
            dropRow();
            setProbe(false, 0);
        }

        private void makeRow(int n) {
            hasRow = true;
            size = n;
            for (int i = 0; i < MAX_PLACES; i++) {
                row[i] = VACANT;
            }
        }

        private int dropRow() {
            int had = size;
            hasRow = false;
            size = 0;
            return had;
        }

        private boolean hasPlace(int place) {
            return isWithin(place, 0, size - 1);
        }

        private int bagIn(int place) {
            return hasPlace(place) ? row[place] : VACANT;
        }

        private void put(int place, int bag) {
            if (hasPlace(place)) {
                row[place] = bag;
            }
        }

        private boolean holdsBag() {
            for (int place = 0; place < size; place++) {
                if (row[place] != VACANT) {
                    return true;
                }
            }
            return false;
        }

        private int findForPlace(int place) {
            if (!hasRow) {
                return NO_ROW;
            }
            if (!hasPlace(place)) {
                return PLACE;
            }
            return row[place] == VACANT ? EMPTY : FOUND_NOTHING;
        }

        private int findForSlide(int from, int to, int n) {
            if (!hasRow) {
                return NO_ROW;
            }
            if (!hasPlaces(from, n) || !hasPlaces(to, n)) {
                return PLACE;
            }
            for (int place = to; place < to + n; place++) {
                boolean goes = isWithin(place, from, from + n - 1);
                if (!goes && row[place] != VACANT) {
                    return TAKEN;
                }
            }
            return FOUND_NOTHING;
        }

        /** Compared without a sum, which could run over. */
        private boolean hasPlaces(int first, int n) {
            return first >= 0 && n >= 0 && first <= size - n;
        }

        /** Only where findForSlide() found nothing. */
        private void shift(int from, int to, int n) {
            System.arraycopy(row, from, row, to, n);
            for (int place = from; place < from + n; place++) {
                if (!isWithin(place, to, to + n - 1)) {
                    row[place] = VACANT;
                }
            }
        }

        private void setProbe(boolean in, int minute) {
            hasProbe = in;
            probedFrom = minute;
            readingCount = 0;
        }

        private int addReading(int tenths) {
            if (readingCount >= MAX_READINGS) {
                return FULL;
            }
            if (!hasProbe) {
                return NO_ROW;
            }
            tenthsRow[readingCount] = tenths;
            readingCount++;
            return readingCount;
        }

        private boolean hasReading(int k) {
            return isWithin(k, 0, readingCount - 1);
        }

        private int readingAt(int k) {
            return hasReading(k) ? tenthsRow[k] : NO_NUMBER;
        }

        private int readingOfMinute(int minute) {
            return readingAt(minute - probedFrom);
        }
    }
}
