import java.lang.reflect.Constructor;
import java.lang.reflect.Field;
import java.lang.reflect.Member;
import java.lang.reflect.Method;
import java.lang.reflect.Modifier;
import java.util.Arrays;
import java.util.TreeSet;
import java.util.stream.Collectors;

/** The public face, the constants, and promise 1: what a new object tells. */
final class FaceTest {
    private static final String[] METHODS = {
        "int feed(int,int,int,int,int)", "int end(int)", "int cut()", "int fault(int)", "int take(int,int)",
        "int told(int)", "int triangle(int,int)", "int entry(int,int)", "int row(int)",
        "int way(int,int,int,int)", "int flip(int,int)", "int fewest(int)", "int passed(int)",
        "int farthest(int)", "int least(boolean)", "int kinds(int,boolean)", "int read()", "int mend()",
        "int mended()", "int crossed(int,int,int)", "int side(int,int,int)", "int greatest(int,int)",
        "int spread(int,int,int)", "int period()", "int ofCut()", "int of(int)", "long along(int,int)",
        "int breaks(int)", "long growth()", "int glue(int)", "int cutOff(int)", "int core()",
        "int see(int,int,int,int)", "int right(int,int,int)", "int fit(int,int)", "int surely(int,int,int)",
        "int ask(int)", "int count(int)"};

    public static void main(String[] args) {
        Check check = new Check();
        face(check);
        check.due("NONE", DiamondRows.NONE, -1);
        check.due("RANGE", DiamondRows.RANGE, -2);
        check.due("FULL", DiamondRows.FULL, -3);
        check.due("STATE", DiamondRows.STATE, -4);
        newObject(check);
        check.finish();
    }

    private static void face(Check check) {
        TreeSet<String> got = new TreeSet<>();
        for (Method m : DiamondRows.class.getDeclaredMethods()) {
            if (!Modifier.isPrivate(m.getModifiers())) {
                check.holds(m.getName() + " is public", Modifier.isPublic(m.getModifiers()));
                got.add(m.getReturnType() + " " + m.getName() + Arrays.stream(m.getParameterTypes())
                    .map(Class::getName).collect(Collectors.joining(",", "(", ")")));
            }
        }
        TreeSet<String> want = new TreeSet<>(Arrays.asList(METHODS));
        check.holds("the methods " + got + " are " + want, got.equals(want));
        TreeSet<String> fields = new TreeSet<>();
        for (Field f : DiamondRows.class.getDeclaredFields()) {
            if (!Modifier.isPrivate(f.getModifiers())) {
                fields.add(Modifier.toString(f.getModifiers()) + " " + f.getType() + " " + f.getName());
            }
        }
        TreeSet<String> constants = new TreeSet<>();
        for (String name : new String[] {"NONE", "RANGE", "FULL", "STATE"}) {
            constants.add("public static final int " + name);
        }
        check.holds("the fields " + fields + " are " + constants, fields.equals(constants));
        Constructor<?>[] made = DiamondRows.class.getDeclaredConstructors();
        check.due("constructors", made.length, 1);
        check.due("their parameters", made[0].getParameterCount(), 0);
        check.holds("it is public", isPublic(made[0]));
        check.holds("the class is final", Modifier.isFinal(DiamondRows.class.getModifiers()));
    }

    private static boolean isPublic(Member member) {
        return Modifier.isPublic(member.getModifiers());
    }

    private static void newObject(Check check) {
        DiamondRows x = new DiamondRows();
        check.due("told(0)", x.told(0), 4);
        check.due("told(1)", x.told(1), 0);
        check.due("told(2)", x.told(2), 2);
        check.due("told(3)", x.told(3), 1);
        check.due("of(0)", x.of(0), 1);
        check.due("entry(0, 2)", x.entry(0, 2), 1);
        check.due("fault(0)", x.fault(0), 0);
        check.due("fault(1)", x.fault(1), DiamondRows.NONE);
        check.due("passed(0)", x.passed(0), DiamondRows.NONE);
        check.due("mended()", x.mended(), DiamondRows.NONE);
        for (int what = 0; what < 3; what++) {
            check.due("count(" + what + ")", x.count(what), 0);
        }
        check.due("see(0, ..)", x.see(0, 0, 2, 1), 0);
    }
}
