import java.lang.reflect.InvocationTargetException;
import java.lang.reflect.Method;
import java.lang.reflect.Modifier;
import java.util.ArrayList;
import java.util.HashMap;
import java.util.List;
import java.util.Map;
import java.util.Random;
import java.util.TreeMap;
import java.util.TreeSet;

/**
 * Runs of 512 random calls, sound and wild, on the class and on Model: each answer must be the same. Behind all runs
 * each call must have given all answers below 0 that the document tells with it, and no others.
 */
public final class RandomRunsTest {
    private static final int RUNS = 1000;
    private static final int CALLS = 512;
    private static final int CLIMATES = 6;
    private static final int[] WILD =
        {Integer.MIN_VALUE, Integer.MAX_VALUE, -1, -2, -9, 12, 20, 21, 40, 200, 300, 65536};
    private static final Check c = new Check("RandomRunsTest");

    /** Weight, name, arguments, and the answers below 0 that are told with it. */
    private static final String[] FACE = {
        "3 rack bank rackKind NONE BAD FULL", "4 row rack size NONE BAD TAKEN SIZE", "1 unrow rack NONE NO_ROW TAKEN",
        "4 probe rack flag NONE AS_IS", "30 cold rack tenths NONE BAD FULL NO_ROW", "4 fails rack NONE FULL NO_ROW",
        "5 reading rack reading", "3 readings rack NONE NO_ROW", "24 minute", "4 patient group signs BAD FULL",
        "30 take bank takeKind donor group signs grams NONE BAD FULL", "5 send bag bank NONE GONE AS_IS",
        "30 lay bag rack place NONE BAD GONE AS_IS NO_ROW PLACE TAKEN KIND",
        "8 lift rack place kind NONE BAD NO_ROW PLACE EMPTY KIND",
        "10 slide rack place place place NONE NO_ROW PLACE TAKEN",
        "30 test bag flag NONE GONE AS_IS", "24 free bag NONE GONE UNTESTED AS_IS WARM EXPIRED RECALLED",
        "14 part bag NONE FULL GONE KIND RESERVED EXPIRED RECALLED", "16 tray bag NONE FULL GONE AS_IS", "1 untray",
        "10 pool poolKind BAD FULL EMPTY GONE KIND AS_IS RESERVED EXPIRED RECALLED",
        "10 freeze bag NONE FULL GONE KIND AS_IS RESERVED EXPIRED RECALLED",
        "10 thaw bag NONE FULL GONE KIND RESERVED RECALLED", "10 reserve bag patient NONE GONE RESERVED UNFIT",
        "5 release bag NONE AS_IS",
        "24 give bag patient NONE GONE UNTESTED UNFREE WARM EXPIRED RECALLED RESERVED UNFIT",
        "14 home bag NONE AS_IS", "2 spoil bag NONE GONE", "5 share bag few NONE BAD GONE NOUGHT", "1 recall donor BAD",
        "3 listed few NONE", "3 kindOf bag NONE", "5 state bag NONE", "20 told bag what NONE BAD NOTHING",
        "5 bodies bag body NONE BAD MARK", "5 came bag few NONE", "5 from bag few NONE",
        "8 at rack place NONE NO_ROW PLACE EMPTY", "3 places rack NONE NO_ROW", "6 fits bag patient NONE",
        "10 match patient matchKind NONE BAD EMPTY", "6 stock bank kind NONE BAD", "6 tries act BAD", "3 locked",
        "12 status STATUS", "4 count few BAD", "10 digest DIGEST", "0 clear"};

    private static final List<String[]> CALLS_OF_FACE = new ArrayList<>();
    private static final Map<String, Method> OF_CLASS = new HashMap<>();
    private static final Map<String, Method> OF_MODEL = new HashMap<>();
    private static final Map<String, TreeSet<Long>> SEEN = new TreeMap<>();

    private final Random random;
    private final int climate;
    private final BloodBank x = new BloodBank();
    private final Model model = new Model();
    private int asked;

    private RandomRunsTest(int seed) {
        random = new Random(seed);
        climate = seed % CLIMATES;
    }

    public static void main(String[] args) throws ReflectiveOperationException {
        readFace();
        for (int seed = 0; seed < RUNS; seed++) {
            new RandomRunsTest(seed).run("run " + seed);
        }
        answersAsTold();
        c.end();
    }

    private static void readFace() {
        for (Method m : BloodBank.class.getDeclaredMethods()) {
            OF_CLASS.put(m.getName(), m);
        }
        for (Method m : Model.class.getDeclaredMethods()) {
            if (Modifier.isPublic(m.getModifiers())) {
                OF_MODEL.put(m.getName(), m);
            }
        }
        for (String line : FACE) {
            String[] words = line.split(" ");
            SEEN.put(words[1], new TreeSet<>());
            for (int i = Integer.parseInt(words[0]); i > 0; i--) {
                CALLS_OF_FACE.add(words);
            }
        }
    }

    private void run(String name) throws ReflectiveOperationException {
        setUp(name);
        while (asked < CALLS) {
            boolean tends = climate > 0 && random.nextInt(4) < (climate == 1 ? 2 : 3);
            String[] words = tends ? ofClimate() : CALLS_OF_FACE.get(random.nextInt(CALLS_OF_FACE.size()));
            if (random.nextInt(4000) == 0) {
                words = new String[] {"0", "clear"};
            }
            ask(name, words[1], argumentsFor(words));
        }
    }

    /** Some runs tend to warm bags, to full banks, to full probes, to waiting, to full tables. */
    private String[] ofClimate() {
        String[][] tending = {{"cold", "cold", "cold", "minute"}, {"take", "take", "take", "part", "freeze", "thaw"},
            {"cold", "fails"}, {"minute", "minute", "minute", "take"}, {"rack", "patient", "tray"}};
        String[] names = tending[climate - 1];
        String name = names[random.nextInt(names.length)];
        for (String[] words : CALLS_OF_FACE) {
            if (words[1].equals(name)) {
                return words;
            }
        }
        throw new IllegalStateException(name);
    }

    private void setUp(String name) throws ReflectiveOperationException {
        for (int rack = 0; rack < 3; rack++) {
            ask(name, "rack", rack / 2, 6);
            ask(name, "row", rack, 6);
            ask(name, "probe", rack, true);
            ask(name, "patient", random.nextInt(8), random.nextInt(4));
        }
    }

    private Object[] argumentsFor(String[] words) {
        Class<?>[] types = OF_CLASS.get(words[1]).getParameterTypes();
        Object[] arguments = new Object[types.length];
        for (int i = 0; i < types.length; i++) {
            boolean wild = random.nextInt(70) == 0;
            int n = wild ? WILD[random.nextInt(WILD.length)] : argument(words[i + 2]);
            arguments[i] = types[i] == boolean.class ? (Object) (random.nextInt(5) > 0) : (Object) n;
        }
        return arguments;
    }

    private int argument(String kind) {
        switch (kind) {
            case "bank": return random.nextInt(8) == 0 ? random.nextInt(6) - 1 : 0;
            case "rackKind": return random.nextInt(3) > 0 ? 6 : random.nextInt(9) - 1;
            case "kind": case "matchKind": return random.nextInt(9) - 1;
            case "takeKind": return random.nextInt(20) == 0 ? 4 : random.nextInt(4);
            case "poolKind": return random.nextInt(12) == 0 ? random.nextInt(6) : 2 + random.nextInt(2);
            case "rack": return climate == 3 ? 0 : Math.min(random.nextInt(14), random.nextInt(climate == 1 ? 2 : 4));
            case "size": return random.nextInt(4) == 0 ? random.nextInt(24) - 1 : 6;
            case "tenths": return tenths();
            case "reading": return Math.min(random.nextInt(302), random.nextInt(40)) - 1;
            case "group": return random.nextInt(30) == 0 ? 8 : random.nextInt(3) > 0 ? 1 : random.nextInt(8);
            case "signs": return random.nextInt(30) == 0 ? 65535 : random.nextInt(4);
            case "donor": return random.nextInt(30) == 0 ? 99 + random.nextInt(2) : random.nextInt(6);
            case "grams": return random.nextInt(30) == 0 ? random.nextInt(2) * 2001 : 1 + random.nextInt(2000);
            case "bag": return bag();
            case "place": return random.nextInt(8) - 1;
            case "patient": return random.nextInt(12) == 0 ? random.nextInt(41) : random.nextInt(3);
            case "what": return random.nextInt(19) - 1;
            case "body": return random.nextInt(9) - 1;
            case "act": return random.nextInt(16) - 1;
            default: return random.nextInt(9) - 1;
        }
    }

    private int tenths() {
        int[] edges = {60, 61, 80, 81, 240, 241, -180, -179, 500, -500, 501, -501, 0, -1};
        if (climate == 1) {
            return random.nextInt(12) == 0 ? edges[random.nextInt(edges.length)] : 300;
        }
        return random.nextBoolean() ? edges[random.nextInt(edges.length)] : random.nextInt(1001) - 500;
    }

    /** Mostly one of the latest, so that what is done with one bag comes together. */
    private int bag() {
        int bags = model.count(1);
        return random.nextInt(5) == 0 ? random.nextInt(bags + 2) - 1 : Math.max(0, bags - 1 - random.nextInt(8));
    }

    private void ask(String run, String name, Object... arguments) throws ReflectiveOperationException {
        asked++;
        Object want = answer(OF_MODEL.get(name), model, arguments);
        Object got = answer(OF_CLASS.get(name), x, arguments);
        c.due(want.equals(got), run + ", call " + asked + ": " + name + List.of(arguments) + " answered " + got
            + ", due is " + want);
        if (got instanceof Number) {
            long n = ((Number) got).longValue();
            if (n < 0 || name.equals("reading")) {
                SEEN.get(name).add(Math.min(n, 0));
            }
        }
    }

    private static Object answer(Method m, Object of, Object[] arguments) throws ReflectiveOperationException {
        try {
            return m.invoke(of, arguments);
        } catch (InvocationTargetException e) {
            return e.getCause().getClass().getSimpleName();
        }
    }

    private static void answersAsTold() throws ReflectiveOperationException {
        for (String line : FACE) {
            String[] words = line.split(" ");
            TreeSet<Long> due = new TreeSet<>();
            for (int i = 2 + OF_CLASS.get(words[1]).getParameterCount(); i < words.length; i++) {
                due.add(constant(words[i]));
            }
            boolean free = line.endsWith("STATUS") || line.endsWith("DIGEST") || words[1].equals("reading");
            c.due(free || due.equals(SEEN.get(words[1])), words[1] + " answered " + SEEN.get(words[1]) + ", told are "
                + due);
        }
    }

    private static long constant(String name) throws ReflectiveOperationException {
        switch (name) {
            case "NOTHING": return -9;
            case "MARK": return -180;
            case "STATUS": case "DIGEST": return 0;
            default: return BloodBank.class.getField(name).getInt(null);
        }
    }
}
