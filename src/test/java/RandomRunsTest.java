import java.util.Random;

/** Runs of random calls, sound and wild: nothing throws, and what the document ties together agrees after each. */
public final class RandomRunsTest {
    private static final int RUNS = 400;
    private static final int CALLS = 512;
    private static final int[] WILD = {Integer.MIN_VALUE, Integer.MAX_VALUE, -1, -9, 200, 65536};
    private static final Check c = new Check("RandomRunsTest");

    private final Random random;
    private final BloodBank x = new BloodBank();
    private final int[] tries = new int[14];
    private int status;

    private RandomRunsTest(int seed) {
        random = new Random(seed);
    }

    public static void main(String[] args) {
        for (int seed = 0; seed < RUNS; seed++) {
            RandomRunsTest run = new RandomRunsTest(seed);
            try {
                run.setUp();
                for (int i = 0; i < CALLS; i++) {
                    run.oneCall();
                }
                run.agree();
            } catch (RuntimeException e) {
                c.due(false, "run " + seed + " threw " + e + " at " + e.getStackTrace()[0]);
            }
        }
        c.end();
    }

    private void setUp() {
        for (int i = 0; i < 5; i++) {
            x.rack(i % 2, i < 3 ? 6 : i - 1);
            x.row(i, 6);
            x.probe(i, true);
            x.patient(random.nextInt(8), random.nextInt(4));
        }
    }

    private int upTo(int most) {
        return random.nextInt(60) == 0 ? WILD[random.nextInt(WILD.length)] : random.nextInt(most + 1);
    }

    private int bag() {
        return upTo(Math.max(0, x.count(1) - 1));
    }

    private void oneCall() {
        long before = x.digest();
        int act = random.nextInt(30);
        if (act < 14) {
            agreeOnAct(act, before, anAct(act));
        } else {
            noAct(act);
        }
        c.due(status, x.status());
        c.due(0, x.locked());
        if (random.nextInt(20) == 0) {
            agree();
        }
    }

    private int anAct(int act) {
        switch (act) {
            case 0: return x.lay(bag(), upTo(4), upTo(6));
            case 1: return x.lift(upTo(4), upTo(6), random.nextBoolean() ? 6 : upTo(6));
            case 2: return x.slide(upTo(4), upTo(6), upTo(6), upTo(6));
            case 3: return x.test(bag(), random.nextInt(5) > 0);
            case 4: return x.free(bag());
            case 5: return x.part(bag());
            case 6: return x.pool(2 + upTo(1));
            case 7: return x.freeze(bag());
            case 8: return x.thaw(bag());
            case 9: return x.reserve(bag(), upTo(4));
            case 10: return x.give(bag(), upTo(4));
            case 11: return x.home(bag());
            case 12: return random.nextInt(3) == 0 ? x.spoil(bag()) : x.spoil(-1);
            default: return x.share(bag(), upTo(5));
        }
    }

    private void agreeOnAct(int act, long before, int answer) {
        boolean wasRefused = answer < 0 && answer >= BloodBank.FULL;
        if (!wasRefused) {
            tries[act]++;
        }
        status = Math.min(answer, 0);
        c.due(tries[act], x.tries(act));
        c.due(answer >= 0 || before == x.digest(), "refused or found, and yet a bag changed, act " + act);
    }

    private void noAct(int which) {
        switch (which) {
            case 14: x.minute(); break;
            case 15: x.cold(upTo(4), random.nextInt(1100) - 550); break;
            case 16: x.fails(upTo(4)); break;
            case 17: x.tray(bag()); break;
            case 18: if (random.nextInt(4) == 0) { x.untray(); } break;
            case 19: x.release(bag()); break;
            case 20: if (random.nextInt(9) == 0) { agreeOnRecall(upTo(30)); } break;
            case 21: x.send(bag(), upTo(3)); break;
            case 22: x.probe(upTo(4), random.nextInt(4) > 0); break;
            case 23: x.row(upTo(4), upTo(6)); break;
            case 24: if (random.nextInt(3) == 0) { x.unrow(upTo(4)); } break;
            case 25: agreeOnMatch(upTo(4), upTo(5)); break;
            default: x.take(upTo(1), upTo(3), upTo(30), upTo(7), upTo(15), 1 + upTo(500)); break;
        }
    }

    /** Asked by from() of each bag whether it came, over others, of the donor's. */
    private void agreeOnRecall(int donor) {
        int bags = x.count(1);
        boolean[] due = new boolean[bags];
        boolean[] ahead = new boolean[bags];
        int fresh = 0;
        for (int i = 0; i < bags; i++) {
            due[i] = x.told(i, 5) == donor;
            for (int k = 0; x.from(i, k) != BloodBank.NONE; k++) {
                due[i] |= due[x.from(i, k)];
            }
            ahead[i] = x.told(i, 3) == 1;
            fresh += due[i] && !ahead[i] && x.state(i) != 2 ? 1 : 0;
        }
        boolean refused = donor < 0 || donor > 99;
        c.due(refused ? BloodBank.BAD : fresh, x.recall(donor));
        int listed = 0;
        for (int i = 0; i < bags && !refused; i++) {
            boolean away = x.state(i) == 2;
            c.due(ahead[i] || due[i] && !away ? 1 : 0, x.told(i, 3));
            if (due[i] && away) {
                c.due(i, x.listed(listed));
                listed++;
            }
        }
        c.due(refused ? x.listed(listed) : BloodBank.NONE, x.listed(listed));
    }

    private void agreeOnMatch(int patient, int kind) {
        if (patient < 0 || patient >= x.count(2) || kind < 0 || kind > 5) {
            c.due(x.match(patient, kind) >= BloodBank.BAD, "refused");
            return;
        }
        int best = BloodBank.EMPTY;
        for (int i = 0; i < x.count(1); i++) {
            boolean is = x.kindOf(i) == kind || x.kindOf(i) == 4 && kind == 2;
            boolean given = x.state(i) < 2 && x.told(i, 0) == 1 && x.told(i, 1) == 1 && x.told(i, 2) == 0
                && x.count(3) < x.told(i, 10) && x.told(i, 3) == 0
                && (x.told(i, 4) == -9 || x.told(i, 4) == patient) && x.fits(i, patient) == 1;
            if (is && given && (best < 0 || x.told(i, 10) < x.told(best, 10))) {
                best = i;
            }
        }
        c.due(best, x.match(patient, kind));
    }

    private void agree() {
        int[] stock = new int[4];
        int lying = 0;
        for (int i = 0; i < x.count(1); i++) {
            boolean inRack = x.state(i) == 1;
            c.due(inRack == (x.told(i, 14) != -9) && inRack == (x.told(i, 15) != -9), "rack and place");
            if (inRack) {
                c.due(i, x.at(x.told(i, 14), x.told(i, 15)));
                lying++;
            }
            c.due((x.state(i) == 2) == (x.told(i, 16) != -9), "away from a minute on");
            stock[x.told(i, 13)] += x.state(i) < 2 ? 1 : 0;
            for (int k = 0; x.came(i, k) != BloodBank.NONE; k++) {
                c.due(isFrom(x.came(i, k), i), "came of it and yet is not from it");
            }
        }
        for (int bank = 0; bank < 4; bank++) {
            c.due(stock[bank], x.stock(bank, 6));
        }
        for (int rack = 0; rack < x.count(0); rack++) {
            for (int place = 0; place < x.places(rack); place++) {
                lying -= x.at(rack, place) >= 0 ? 1 : 0;
            }
        }
        c.due(0, lying);
    }

    private boolean isFrom(int bag, int source) {
        boolean is = false;
        for (int k = 0; x.from(bag, k) != BloodBank.NONE; k++) {
            is |= x.from(bag, k) == source;
        }
        return is;
    }
}
