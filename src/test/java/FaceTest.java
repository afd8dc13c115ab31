import java.lang.reflect.Constructor;
import java.lang.reflect.Field;
import java.lang.reflect.Method;
import java.lang.reflect.Modifier;
import java.util.ArrayList;
import java.util.Arrays;
import java.util.List;
import java.util.TreeSet;

/** The public face that the document gives, and rules 1, 5 and 11 of LANGUAGE.md. */
final class FaceTest {
    private static final String INDEX = "IndexOutOfBoundsException";
    private static final String ARGUMENT = "IllegalArgumentException";
    private static final String STATE = "IllegalStateException";
    private static final String ELEMENT = "NoSuchElementException";
    private static final String UNSUPPORTED = "UnsupportedOperationException";
    private static final String ARITHMETIC = "ArithmeticException";

    private static final String[][] FACE = {
        {"int type(char)", ARGUMENT, STATE},
        {"int addWish(int,int)", ARGUMENT, STATE},
        {"int wishNamed()", ELEMENT},
        {"int accept(int)", INDEX, STATE},
        {"int drop(int)", INDEX, STATE},
        {"char state(int)", INDEX},
        {"int refine(int,int)", INDEX, STATE, UNSUPPORTED},
        {"int need(int,int)", INDEX, STATE, UNSUPPORTED},
        {"boolean exclude(int,int)", INDEX, ARGUMENT},
        {"int parentOf(int)", INDEX, ELEMENT},
        {"int touched(int)", INDEX},
        {"int addTest()", STATE},
        {"int cover(int,int)", INDEX, STATE},
        {"char result(int,int,char)", INDEX, ARGUMENT, STATE},
        {"int passed(int,int)", INDEX},
        {"boolean isCovered(int,int)", INDEX},
        {"boolean isCoveredFromLinks(int,int)", INDEX},
        {"int addRelease(int)", ARGUMENT, STATE},
        {"int plan(int,int)", INDEX, STATE, UNSUPPORTED},
        {"int unplan(int)", INDEX, STATE},
        {"int releaseOf(int)", INDEX, ELEMENT},
        {"int left(int)", INDEX},
        {"char reasonAgainst(int)", INDEX},
        {"int ship(int)", INDEX, UNSUPPORTED},
        {"int bestValue(int)", INDEX, STATE},
        {"int bestValueByTrying(int)", INDEX, STATE},
        {"int addRisk(int,int)", ARGUMENT, STATE},
        {"int lower(int,int,int)", INDEX, ARGUMENT, STATE},
        {"int raise(int,int,int)", INDEX, ARGUMENT, STATE},
        {"int chance(int)", INDEX},
        {"long exposure()"},
        {"long changeByDropping(int)", INDEX, STATE},
        {"int makeBaseline()", STATE},
        {"int differences(int,int)", INDEX},
        {"int openEnds(char)", ARGUMENT},
        {"int openAt(char,int)", ARGUMENT, ELEMENT},
        {"int writeWish(int)", INDEX},
        {"char lineAt(int)", INDEX},
        {"double meanChance()", ARITHMETIC},
        {"float coveredShare(int)", INDEX, ARITHMETIC},
        {"boolean isConsistent()"},
    };

    public static void main(String[] args) {
        Check.same("the class", Modifier.PUBLIC | Modifier.FINAL, SpecBoard.class.getModifiers());
        methods();
        constructor();
        hiddenMembers();
        insideClasses();
        Check.end();
    }

    private static void methods() {
        TreeSet<String> due = new TreeSet<>();
        for (String[] row : FACE) {
            due.add(row[0] + " throws " + Arrays.asList(row).subList(1, row.length));
        }
        TreeSet<String> got = new TreeSet<>();
        for (Method method : SpecBoard.class.getDeclaredMethods()) {
            if (Modifier.isPublic(method.getModifiers())) {
                got.add(textOf(method));
            }
        }
        Check.same("the public methods", due, got);
    }

    /** A method as "int type(char) throws [A, B]", the exceptions in the order of its declaration. */
    static String textOf(Method method) {
        return method.getReturnType().getSimpleName() + " " + method.getName()
            + namesOf(method.getParameterTypes()).toString()
                .replace('[', '(').replace(']', ')').replace(" ", "")
            + " throws " + namesOf(method.getExceptionTypes());
    }

    private static List<String> namesOf(Class<?>[] classes) {
        List<String> names = new ArrayList<>();
        for (Class<?> each : classes) {
            names.add(each.getSimpleName());
        }
        return names;
    }

    private static void constructor() {
        Constructor<?>[] all = SpecBoard.class.getDeclaredConstructors();
        Check.same("one constructor", 1, all.length);
        Check.same("a public one", Modifier.PUBLIC, all[0].getModifiers());
        Check.same("without parameters", 0, all[0].getParameterCount());
    }

    private static void hiddenMembers() {
        for (Method method : SpecBoard.class.getDeclaredMethods()) {
            int modifiers = method.getModifiers();
            Check.yes(method + " is public or private",
                Modifier.isPublic(modifiers) || Modifier.isPrivate(modifiers));
            Check.yes(method + " takes at most seven", method.getParameterCount() <= 7);
        }
        for (Field field : SpecBoard.class.getDeclaredFields()) {
            Check.yes(field + " is private", Modifier.isPrivate(field.getModifiers()));
            Check.yes(field + " is final", Modifier.isFinal(field.getModifiers()));
        }
    }

    private static void insideClasses() {
        TreeSet<String> names = new TreeSet<>();
        for (String[] row : FACE) {
            names.add(row[0].substring(row[0].indexOf(' ') + 1, row[0].indexOf('(')));
        }
        for (Class<?> inside : SpecBoard.class.getDeclaredClasses()) {
            int modifiers = inside.getModifiers();
            Check.yes(inside + " is hidden", !Modifier.isPublic(modifiers) && !Modifier.isProtected(modifiers));
            Check.yes(inside + " is static", Modifier.isStatic(modifiers));
            for (Method method : inside.getDeclaredMethods()) {
                Check.no(method + " bears a public name", names.contains(method.getName()));
            }
            for (Field field : inside.getDeclaredFields()) {
                Check.no(field + " is static", Modifier.isStatic(field.getModifiers()));
            }
        }
        for (Method method : SpecBoard.class.getDeclaredMethods()) {
            boolean isHidden = !Modifier.isPublic(method.getModifiers());
            Check.no(method + " bears a public name", isHidden && names.contains(method.getName()));
        }
        Check.yes("at most twelve classes", SpecBoard.class.getDeclaredClasses().length <= 11);
    }
}
