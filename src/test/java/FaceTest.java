import java.lang.reflect.Constructor;
import java.lang.reflect.Field;
import java.lang.reflect.Member;
import java.lang.reflect.Method;
import java.lang.reflect.Modifier;
import java.util.ArrayList;
import java.util.Arrays;
import java.util.HashSet;
import java.util.List;
import java.util.Set;

/** The public face as the document has it, no member beside it, and as many calls of one object as it allows. */
public final class FaceTest {
    private static final int CALLS = 512;
    private static final Checks checks = new Checks();

    /** Line by line as the document has them, without the names of the parameters. */
    private static final String[] METHODS = {
        "int fence(int, int, int, boolean, int, int) throws " + Checks.IAE + ", " + Checks.IOOBE + ", " + Checks.ISE,
        "int change(int, int, int) throws " + Checks.IOOBE + ", " + Checks.IAE,
        "int take(int) throws " + Checks.IOOBE,
        "int road(boolean, int) throws " + Checks.IOOBE + ", " + Checks.ISE,
        "int setLimit(int) throws " + Checks.IAE,
        "int setSupply(int) throws " + Checks.IAE,
        "int fall(int) throws " + Checks.IAE,
        "int blow(int, int, int) throws " + Checks.IOOBE + ", " + Checks.IAE,
        "int plough(int) throws " + Checks.IOOBE,
        "int snow(int, int) throws " + Checks.IOOBE,
        "int about(int, int) throws " + Checks.IOOBE,
        "int told(int, int) throws " + Checks.IOOBE,
        "int count(int) throws " + Checks.IOOBE,
        "int would(int, int, int, int) throws " + Checks.IOOBE + ", " + Checks.IAE,
        "int until(int, int, int) throws " + Checks.IOOBE + ", " + Checks.IAE,
        "int advise(int, int, int) throws " + Checks.IOOBE + ", " + Checks.IAE,
        "int harmful(int, int) throws " + Checks.IOOBE + ", " + Checks.IAE,
        "double mean()",
        "long digest()"
    };

    private static String names(Class<?>[] classes) {
        StringBuilder b = new StringBuilder();
        for (Class<?> c : classes) {
            b.append(b.length() == 0 ? "" : ", ").append(c.getSimpleName());
        }
        return b.toString();
    }

    private static String told(Method m) {
        String thrown = names(m.getExceptionTypes());
        return m.getReturnType().getSimpleName() + " " + m.getName() + "(" + names(m.getParameterTypes()) + ")"
                + (thrown.isEmpty() ? "" : " throws " + thrown);
    }

    private static List<String> sorted(List<String> texts) {
        List<String> sorted = new ArrayList<>(texts);
        sorted.sort(null);
        return sorted;
    }

    private static void methods() {
        List<String> found = new ArrayList<>();
        Set<String> publicNames = new HashSet<>();
        List<Method> others = new ArrayList<>();
        for (Method m : SnowFences.class.getDeclaredMethods()) {
            if (m.getModifiers() == Modifier.PUBLIC) {
                found.add(told(m));
                publicNames.add(m.getName());
            } else {
                others.add(m);
            }
        }
        checks.due("the public methods", sorted(Arrays.asList(METHODS)), () -> sorted(found));
        for (Method m : others) {
            hidden(m);
            checks.due(m.getName() + " bears the name of a public one", false, () -> publicNames.contains(m.getName()));
        }
    }

    private static void hidden(Member m) {
        checks.due(m.getName() + " is private", true, () -> m.isSynthetic() || Modifier.isPrivate(m.getModifiers()));
    }

    private static void allElse() {
        Class<?> face = SnowFences.class;
        checks.due("the class", Modifier.PUBLIC | Modifier.FINAL, () -> face.getModifiers());
        checks.due("the package", "", () -> face.getPackageName());
        checks.due("the class above", Object.class, () -> face.getSuperclass());
        checks.due("constructors", 1, () -> face.getDeclaredConstructors().length);
        for (Constructor<?> c : face.getDeclaredConstructors()) {
            checks.due("the constructor is public", Modifier.PUBLIC, () -> c.getModifiers());
            checks.due("what the constructor takes", "", () -> names(c.getParameterTypes()));
            checks.due("what the constructor throws", "", () -> names(c.getExceptionTypes()));
        }
        for (Field f : face.getDeclaredFields()) {
            hidden(f);
            int m = f.getModifiers();
            checks.due(f.getName() + " is no static state", true, () -> !Modifier.isStatic(m) || Modifier.isFinal(m));
        }
        for (Class<?> inside : face.getDeclaredClasses()) {
            int m = inside.getModifiers();
            checks.due(inside.getName() + " is for the class alone", true,
                    () -> Modifier.isStatic(m) && !Modifier.isPublic(m) && !Modifier.isProtected(m));
        }
    }

    // An object is used for at most 512 calls: the last of them answers as the first, where nothing is changed.
    private static void manyCalls(String what, Boundary.WithNumber call) {
        SnowFences x = Boundary.full();
        String first = Checks.answerOf(() -> call.call(x, 0));
        String last = first;
        for (int i = 1; i < CALLS; i++) {
            last = Checks.answerOf(() -> call.call(x, 0));
        }
        String found = last;
        checks.due(what + ", the last of many", first, () -> found);
        checks.due(what + ", all behind many", Boundary.allTold(Boundary.full()), () -> Boundary.allTold(x));
    }

    private static void manyCallsThatChangeNothing() {
        manyCalls("snow", (x, n) -> x.snow(3, 4));
        manyCalls("about", (x, n) -> x.about(9, 6));
        manyCalls("told", (x, n) -> x.told(3, 2));
        manyCalls("count", (x, n) -> x.count(4));
        manyCalls("would", (x, n) -> x.would(0, 5, 24, 3));
        manyCalls("until", (x, n) -> x.until(2, 1, 0));
        manyCalls("advise", (x, n) -> x.advise(1, 5, 4));
        manyCalls("harmful", (x, n) -> x.harmful(3, 5));
        manyCalls("mean", (x, n) -> x.mean());
        manyCalls("digest", (x, n) -> x.digest());
        manyCalls("an eleventh fence", (x, n) -> x.fence(0, 0, 20, true, 1, 0));
        manyCalls("a fifth road", (x, n) -> x.road(true, 5));
        manyCalls("no such wind", (x, n) -> x.blow(4, 5, 24));
    }

    private static void manyCallsThatChange() {
        SnowFences blown = new SnowFences();
        blown.setSupply(40);
        for (int i = 1; i < CALLS; i++) {
            blown.blow(i % 4, 9, 24);
        }
        checks.due("carried off in many calls", 511 * 24 * 800, () -> blown.count(5));
        checks.due("hours of many calls", 511 * 24, () -> blown.count(7));
        SnowFences ploughed = new SnowFences();
        ploughed.road(false, 19);
        for (int i = 0; i < 255; i++) {
            ploughed.fall(30);
            ploughed.plough(0);
        }
        checks.due("ploughed in many calls", 255 * 600, () -> ploughed.count(6));
        SnowFences fenced = new SnowFences();
        for (int i = 0; i < CALLS / 2; i++) {
            checks.due("a fence, and again", 0, () -> fenced.fence(1, 2, 3, false, 4, 1));
            checks.due("taken, and again", 0, () -> fenced.take(0));
        }
        checks.due("as at first", Boundary.allTold(new SnowFences()), () -> Boundary.allTold(fenced));
    }

    public static void main(String[] args) {
        methods();
        allElse();
        manyCallsThatChangeNothing();
        manyCallsThatChange();
        checks.end();
    }
}
