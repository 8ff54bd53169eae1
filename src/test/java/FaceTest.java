import java.lang.reflect.Constructor;
import java.lang.reflect.Field;
import java.lang.reflect.Method;
import java.lang.reflect.Modifier;
import java.util.ArrayList;
import java.util.Arrays;
import java.util.Collections;
import java.util.List;
import java.util.TreeSet;

/** The public face as the document writes it, nothing else that is not private, and its examples. */
public final class FaceTest {
    private static final String[] FACE = {
        "int joke(int, int, int, int, int) IllegalArgument IllegalState",
        "int callback(int, int, int) IndexOutOfBounds IllegalArgument IllegalState",
        "int tag(int, int, int) IndexOutOfBounds IllegalArgument IllegalState",
        "int rewrite(int, int) IndexOutOfBounds IllegalArgument",
        "int comedian(int, int, int, int) IllegalArgument IllegalState",
        "int give(int, int) IndexOutOfBounds UnsupportedOperation IllegalState",
        "int table(int, int, int, int) IllegalArgument IllegalState",
        "int drink(int, int) IndexOutOfBounds IllegalArgument",
        "int mood(int) IndexOutOfBounds",
        "int heads()",
        "int book(int, int, int) IndexOutOfBounds IllegalArgument UnsupportedOperation",
        "int next() IllegalState NoSuchElement",
        "int on()",
        "int tell(int, int) IndexOutOfBounds IllegalArgument IllegalState UnsupportedOperation",
        "int laughOf(int) IndexOutOfBounds NoSuchElement",
        "int seconds() IllegalState",
        "boolean isAtLight() IllegalState",
        "int end() IllegalState",
        "int heckle(int, char) IndexOutOfBounds IllegalArgument IllegalState",
        "boolean answer(char) IllegalArgument IllegalState UnsupportedOperation",
        "int level()",
        "int expect(int) IndexOutOfBounds IllegalState UnsupportedOperation",
        "int best(int) IllegalArgument IllegalState",
        "int bestAt(int, int) IllegalArgument IllegalState NoSuchElement",
        "int told(int) IndexOutOfBounds",
        "int hadBy(int) IllegalArgument NoSuchElement",
        "int firstBy(int) IllegalArgument NoSuchElement",
        "int firstNight(int) IllegalArgument NoSuchElement",
        "int stolen(int) IndexOutOfBounds",
        "int price(int, int) IllegalArgument",
        "int close() IllegalState",
        "int night()",
        "long got(int) IndexOutOfBounds",
        "int groans(int) IndexOutOfBounds",
        "boolean isBanned(int) IndexOutOfBounds",
        "long laughs(int) IndexOutOfBounds",
        "int rank(int) NoSuchElement",
        "float laughShare() Arithmetic",
        "double meanMood() Arithmetic",
        "long checksum()",
        "boolean isTrue()",
    };

    public static void main(String[] args) {
        face();
        nothingElse();
        firstExample();
        secondExample();
        Check.finish("FaceTest");
    }

    static String written(Method method) {
        StringBuilder text = new StringBuilder();
        text.append(method.getReturnType().getSimpleName()).append(' ').append(method.getName());
        List<String> types = new ArrayList<>();
        for (Class<?> type : method.getParameterTypes()) {
            types.add(type.getSimpleName());
        }
        text.append('(').append(String.join(", ", types)).append(')');
        for (Class<?> type : method.getExceptionTypes()) {
            text.append(' ').append(type.getSimpleName().replace("Exception", ""));
        }
        return text.toString();
    }

    private static void face() {
        List<String> found = new ArrayList<>();
        for (Method method : TightFive.class.getDeclaredMethods()) {
            if (Modifier.isPublic(method.getModifiers())) {
                found.add(written(method));
            }
        }
        List<String> due = new ArrayList<>(Arrays.asList(FACE));
        Collections.sort(found);
        Collections.sort(due);
        Check.is("the public methods", found, due);
        Constructor<?>[] constructors = TightFive.class.getDeclaredConstructors();
        Check.is("one constructor", constructors.length, 1);
        Check.is("it is public", Modifier.isPublic(constructors[0].getModifiers()), true);
        Check.is("it takes nothing", constructors[0].getParameterCount(), 0);
        int modifiers = TightFive.class.getModifiers();
        Check.is("the class is public and final", modifiers, Modifier.PUBLIC | Modifier.FINAL);
    }

    private static void nothingElse() {
        TreeSet<String> publicNames = new TreeSet<>();
        for (Method method : TightFive.class.getDeclaredMethods()) {
            if (Modifier.isPublic(method.getModifiers())) {
                publicNames.add(method.getName());
            }
        }
        for (Method method : TightFive.class.getDeclaredMethods()) {
            if (!Modifier.isPublic(method.getModifiers()) && !method.isSynthetic()) {
                Check.is(method + " is private", Modifier.isPrivate(method.getModifiers()), true);
                Check.is(method + " has its own name", publicNames.contains(method.getName()), false);
            }
        }
        for (Field field : TightFive.class.getDeclaredFields()) {
            Check.is(field + " is private", Modifier.isPrivate(field.getModifiers()), true);
        }
        for (Class<?> inside : TightFive.class.getDeclaredClasses()) {
            Check.is(inside + " is static", Modifier.isStatic(inside.getModifiers()), true);
            Check.is(inside + " is not public", Modifier.isPublic(inside.getModifiers()), false);
        }
    }

    private static void firstExample() {
        TightFive club = new TightFive();
        Check.is("joke", club.joke(5, 2, 0, 20, 10), 0);
        Check.is("comedian", club.comedian(65535, 40, 6, 50), 0);
        Check.is("give", club.give(0, 0), 1);
        Check.is("table", club.table(4, 1, 0, 0), 0);
        Check.is("book", club.book(0, 5, 100), 1);
        Check.is("next", club.next(), 0);
        Check.is("tell", club.tell(0, 0), 64);
        Check.is("laughOf", club.laughOf(0), 16);
        Check.is("mood", club.mood(0), 4);
        Check.is("seconds", club.seconds(), 10);
        Check.is("end", club.end(), 64);
    }

    private static void secondExample() {
        TightFive club = new TightFive();
        Check.is("joke", club.joke(0, 0, 0, 10, 20), 0);
        Check.is("callback", club.callback(0, 40, 10), 1);
        Check.is("comedian", club.comedian(1, 50, 0, 60), 0);
        Check.is("give 0", club.give(0, 0), 1);
        Check.is("give 1", club.give(0, 1), 2);
        Check.is("table", club.table(2, 0, 0, 0), 0);
        Check.is("book", club.book(0, 0, 60), 1);
        Check.is("next", club.next(), 0);
        Check.is("expect", club.expect(1), 0);
        Check.is("best", club.best(60), 138);
        Check.is("bestAt 0", club.bestAt(60, 0), 0);
        Check.is("bestAt 1", club.bestAt(60, 1), 1);
    }
}
