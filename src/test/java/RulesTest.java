import java.lang.management.ManagementFactory;
import java.lang.reflect.Constructor;
import java.lang.reflect.Field;
import java.lang.reflect.Method;
import java.lang.reflect.Modifier;
import java.nio.file.Files;
import java.nio.file.Path;
import java.util.Arrays;
import java.util.List;
import java.util.Set;
import java.util.TreeSet;
import java.util.regex.Matcher;
import java.util.regex.Pattern;

/** The face of the document, and those rules of LANGUAGE.md that a test can see; told the source's path. */
public final class RulesTest {
    private static final String[] FACE = {
        "motor(int,int,int)", "coil(int,int,int,int)", "use(int,boolean)", "clear()", "make(int)", "told(int,int)",
        "sides(int)", "count(int)", "cyclotomic(int)", "wave(int,int,int)", "isStill(int,int)", "balanced(int)",
        "ways(int,int)", "wayOf(int)", "copper()", "tour(int)", "tourAt(int)", "mend()", "shorts(int,int)",
        "picked(int)", "sheet(int,int,int)", "drop(int)", "item(int,int,int,int)", "coils(int,int,int,int)"};
    private static final Set<String> CONSTANTS =
            Set.of("BAD", "NOT", "FULL", "NONE", "NULL", "CAST", "INDEX", "SIZE");

    private final Checks checks = new Checks("RulesTest");
    private int answers;

    public static void main(String[] args) throws Exception {
        RulesTest test = new RulesTest();
        test.faceIsTheDocuments();
        test.constantsAreTheDocuments();
        test.classesInsideKeepTheRules();
        test.sourceKeepsTheRules(Files.readString(Path.of(args[0])));
        test.callsMakeNoObjects();
        test.checks.end();
    }

    private void faceIsTheDocuments() {
        checks.holds("the class is public and final",
                SlotTurns.class.getModifiers() == (Modifier.PUBLIC | Modifier.FINAL));
        Constructor<?>[] constructors = SlotTurns.class.getDeclaredConstructors();
        checks.holds("one public constructor without arguments", constructors.length == 1
                && constructors[0].getModifiers() == Modifier.PUBLIC && constructors[0].getParameterCount() == 0);
        Set<String> found = new TreeSet<>();
        Set<String> names = new TreeSet<>();
        for (Method method : SlotTurns.class.getDeclaredMethods()) {
            if (Modifier.isPrivate(method.getModifiers())) {
                continue;
            }
            names.add(method.getName());
            found.add(method.getName() + Arrays.toString(Arrays.stream(method.getParameterTypes())
                    .map(Class::getName).toArray()).replace(" ", "").replace('[', '(').replace(']', ')'));
            checks.holds(method.getName() + " is public and answers an int",
                    method.getModifiers() == Modifier.PUBLIC && method.getReturnType() == int.class);
        }
        checks.holds("the calls are the document's: " + found, found.equals(new TreeSet<>(List.of(FACE))));
        for (Class<?> type : allClasses()) {
            for (Method method : type.getDeclaredMethods()) {
                checks.holds("no private method bears a public one's name: " + method,
                        type == SlotTurns.class && Modifier.isPublic(method.getModifiers())
                                || !names.contains(method.getName()));
            }
        }
    }

    private void constantsAreTheDocuments() {
        checks.due("BAD", SlotTurns.BAD, -1);
        checks.due("NOT", SlotTurns.NOT, -2);
        checks.due("FULL", SlotTurns.FULL, -3);
        checks.due("NONE", SlotTurns.NONE, -4);
        checks.due("NULL", SlotTurns.NULL, -11);
        checks.due("CAST", SlotTurns.CAST, -12);
        checks.due("INDEX", SlotTurns.INDEX, -13);
        checks.due("SIZE", SlotTurns.SIZE, -14);
        for (Field field : SlotTurns.class.getDeclaredFields()) {
            checks.holds(field + " is private or of the document",
                    Modifier.isPrivate(field.getModifiers()) != CONSTANTS.contains(field.getName()));
        }
    }

    private static List<Class<?>> allClasses() {
        List<Class<?>> all = new java.util.ArrayList<>(List.of(SlotTurns.class.getDeclaredClasses()));
        all.add(SlotTurns.class);
        return all;
    }

    private void classesInsideKeepTheRules() {
        checks.holds("some twelve classes", allClasses().size() <= 12);
        for (Class<?> type : allClasses()) {
            checks.holds(type + " is static and not public", type == SlotTurns.class
                    || Modifier.isStatic(type.getModifiers()) && !Modifier.isPublic(type.getModifiers()));
            int fields = 0;
            for (Field field : type.getDeclaredFields()) {
                boolean fixed = Modifier.isStatic(field.getModifiers());
                checks.holds(field + " is final if it is static", !fixed || Modifier.isFinal(field.getModifiers()));
                fields += fixed ? 0 : 1;
            }
            checks.holds(type + " has some twenty fields", fields <= 20);
            for (Method method : type.getDeclaredMethods()) {
                checks.holds(method + " takes seven at most", method.getParameterCount() <= 7);
            }
        }
    }

    private void sourceKeepsTheRules(String source) {
        String code = source.replaceAll("(?s)/\\*.*?\\*/", "").replaceAll("//[^\n]*", "");
        String[] banned = {"\\bthrows?\\b", "\\btry\\b", "\\bcatch\\b", "\\bsynchronized\\b", "\\bassert\\b",
            "\\bimport\\b", "\\bpackage\\b", "->", "::", "\\bdouble\\b", "\\bfloat\\b", "Exact\\b",
            "\\bSystem\\.(?!arraycopy)",
            "\\bRandom\\b", "\\bInteger\\b", "\\bThread\\b", "\\bObject\\b", "\"", "\\bstatic\\s*\\{"};
        for (String word : banned) {
            Matcher matcher = Pattern.compile(word).matcher(code);
            checks.holds("the source has no " + word, !matcher.find());
        }
        checks.holds("signs 1 to 127", source.chars().allMatch(sign -> sign >= 1 && sign <= 127));
    }

    /** The room of a run is narrow; rows are made with the object, so that calls make none. */
    private void callsMakeNoObjects() {
        com.sun.management.ThreadMXBean bean = (com.sun.management.ThreadMXBean) ManagementFactory.getThreadMXBean();
        long self = Thread.currentThread().getId();
        long made = 0;
        for (int object = 0; object < 50; object++) {
            SlotTurns x = new SlotTurns();
            long before = bean.getThreadAllocatedBytes(self);
            for (int round = 0; round < 18; round++) {
                callAll(x);
            }
            // The first objects load classes, and the machine makes something for that.
            made += object < 10 ? 0 : bean.getThreadAllocatedBytes(self) - before;
        }
        checks.holds("20000 calls make no objects, and made " + made + " bytes", made < 8000);
        checks.holds("they answered", answers != 0);
    }

    private void callAll(SlotTurns x) {
        answers += x.motor(24, 1, 3) + x.make(11) + x.clear() + x.coil(0, 0, 12, 1) + x.coil(0, 12, 0, 2);
        answers += x.use(0, false) + x.use(0, true) + x.told(0, 1) + x.sides(0) + x.count(6) + x.count(1);
        answers += x.cyclotomic(3) + x.wave(0, 1, 0) + x.isStill(0, 1) + x.balanced(1) + x.ways(0, 2) + x.wayOf(0);
        answers += x.copper() + x.tour(0) + x.tourAt(0) + x.mend() + x.shorts(0, 1) + x.picked(0);
        answers += x.sheet(0, 2, 96) + x.item(0, 2, 95, 7) + x.coils(0, 2, 0, 1) + x.drop(0);
    }
}
