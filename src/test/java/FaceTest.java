import java.io.IOException;
import java.lang.reflect.Constructor;
import java.lang.reflect.Field;
import java.lang.reflect.Method;
import java.lang.reflect.Modifier;
import java.util.Arrays;
import java.util.HashSet;
import java.util.Set;
import java.util.TreeSet;
import java.util.regex.Matcher;
import java.util.regex.Pattern;

/** The public face is the document's, and nothing else can be reached from outside. */
public final class FaceTest {
    private static final String[] METHODS = {
        "int rack(int,int)", "int row(int,int)", "int unrow(int)", "int probe(int,boolean)", "int cold(int,int)",
        "int fails(int)", "long reading(int,int)", "int readings(int)", "int minute()", "int patient(int,int)",
        "int take(int,int,int,int,int,int)", "int send(int,int)", "int lay(int,int,int)", "int lift(int,int,int)",
        "int slide(int,int,int,int)", "int test(int,boolean)", "int free(int)", "int part(int)", "int tray(int)",
        "int untray()", "int pool(int)", "int freeze(int)", "int thaw(int)", "int reserve(int,int)",
        "int release(int)", "int give(int,int)", "int home(int)", "int spoil(int)", "int share(int,int)",
        "int recall(int)", "int listed(int)", "int kindOf(int)", "int state(int)", "int told(int,int)",
        "int bodies(int,int)", "int came(int,int)", "int from(int,int)", "int at(int,int)", "int places(int)",
        "int fits(int,int)", "int match(int,int)", "int stock(int,int)", "int tries(int)", "int locked()",
        "int status()", "int count(int)", "long digest()", "int clear()"};
    private static final String[] CONSTANTS = {
        "NONE -1", "BAD -2", "FULL -3", "NO_ROW -11", "PLACE -12", "KIND -13", "EMPTY -14", "TAKEN -15", "SIZE -16",
        "NOUGHT -17", "GONE -18", "UNTESTED -19", "UNFREE -20", "WARM -21", "EXPIRED -22", "RECALLED -23",
        "RESERVED -24", "UNFIT -25", "AS_IS -26"};

    private static final Pattern METHOD =
        Pattern.compile("(?m)^    public ((?:int|long) \\w+)\\((.*)\\)(?: throws (.*))?;$");
    private static final Pattern CONSTANT = Pattern.compile("([A-Z_]+) = (-\\d+)[,;]");

    public static void main(String[] args) throws IllegalAccessException, IOException {
        Check c = new Check("FaceTest");
        checkDocument(c);
        c.due(Modifier.isFinal(BloodBank.class.getModifiers()), "the class is final");
        c.due(new TreeSet<>(Set.of(METHODS)).toString().equals(methods().toString()), "the methods: " + methods());
        c.due(new TreeSet<>(Set.of(CONSTANTS)).toString().equals(constants().toString()), "constants: " + constants());
        Constructor<?>[] made = BloodBank.class.getDeclaredConstructors();
        c.due(made.length == 1 && Modifier.isPublic(made[0].getModifiers()) && made[0].getParameterCount() == 0,
            "one public constructor without parameters");
        checkInside(c);
        c.end();
    }

    /** The face as the document writes it; of the methods what they throw, too. */
    private static void checkDocument(Check c) throws IOException, IllegalAccessException {
        String face = String.join("\n", Project.blocks(Project.document(), "java").get(0));
        Set<String> told = new TreeSet<>();
        for (Matcher m = METHOD.matcher(face); m.find();) {
            String types = m.group(2).replaceAll(" \\w+(, |$)", "$1").replace(" ", "");
            told.add(m.group(1) + "(" + types + ") " + (m.group(3) == null ? "" : m.group(3)));
        }
        c.due(METHODS.length, told.size());
        Set<String> there = new TreeSet<>();
        for (Method m : BloodBank.class.getMethods()) {
            if (m.getDeclaringClass() == BloodBank.class) {
                c.due(m.getModifiers() == Modifier.PUBLIC, "public and nothing else: " + m);
                there.add(m.getReturnType() + " " + m.getName() + "(" + names(m.getParameterTypes()) + ") "
                    + names(m.getExceptionTypes()).replace(",", ", "));
            }
        }
        c.due(told.toString(), there.toString());
        Set<String> constants = new TreeSet<>();
        for (Matcher m = CONSTANT.matcher(face); m.find();) {
            constants.add(m.group(1) + " " + m.group(2));
        }
        c.due(constants.toString(), constants().toString());
    }

    private static String names(Class<?>[] types) {
        return String.join(",", Arrays.stream(types).map(Class::getSimpleName).toArray(String[]::new));
    }

    private static Set<String> methods() {
        Set<String> all = new TreeSet<>();
        for (Method m : BloodBank.class.getDeclaredMethods()) {
            if (!Modifier.isPrivate(m.getModifiers())) {
                String text = m.toString().replaceAll("^public ", "").replace("BloodBank.", "");
                all.add(text.replaceAll(" throws .*$", ""));
            }
        }
        return all;
    }

    private static Set<String> constants() throws IllegalAccessException {
        Set<String> all = new TreeSet<>();
        for (Field f : BloodBank.class.getDeclaredFields()) {
            int m = f.getModifiers();
            if (Modifier.isPublic(m) && Modifier.isStatic(m) && Modifier.isFinal(m) && f.getType() == int.class) {
                all.add(f.getName() + " " + f.getInt(null));
            } else if (!Modifier.isPrivate(m)) {
                all.add("unlooked for: " + f);
            }
        }
        return all;
    }

    private static void checkInside(Check c) {
        Set<String> open = new HashSet<>();
        for (String m : METHODS) {
            open.add(m.replaceAll("^\\w+ (\\w+)\\(.*$", "$1"));
        }
        for (Method m : BloodBank.class.getDeclaredMethods()) {
            c.due(!Modifier.isPrivate(m.getModifiers()) || !open.contains(m.getName()), "a private " + m.getName());
        }
        for (Class<?> inside : BloodBank.class.getDeclaredClasses()) {
            c.due(Modifier.isStatic(inside.getModifiers()) && !Modifier.isPublic(inside.getModifiers()),
                "static and not public: " + inside.getName());
            for (Method m : inside.getDeclaredMethods()) {
                c.due(!open.contains(m.getName()), "a method inside is named as one of the face: " + m);
            }
        }
    }
}
