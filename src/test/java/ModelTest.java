import java.lang.reflect.InvocationTargetException;
import java.lang.reflect.Method;
import java.lang.reflect.Modifier;
import java.util.ArrayList;
import java.util.Arrays;
import java.util.Comparator;
import java.util.List;

/**
 * All promises: drawn evenings, each call asked of the program and of the Model of the document.
 * Numbers are drawn at the ends of their ranges as often as between them, and beside them too.
 */
public final class ModelTest {
    private static final int RUNS = 300;
    // With the two calls at the end that is as many as an object is good for.
    private static final int CALLS = 510;
    private static final String[] FURNITURE = {"comedian", "joke", "table", "joke", "give", "callback",
        "tag", "give", "give", "joke", "tag", "give"};

    private final List<Method> methods = new ArrayList<>();
    private long number = 20261119;
    private TightFive club;
    private Model model;
    private int run;
    // Before a friendly room all is known and nothing is minded, so that moods rise, not fall.
    private boolean friendly;

    public static void main(String[] args) throws ReflectiveOperationException {
        ModelTest test = new ModelTest();
        for (Method method : TightFive.class.getDeclaredMethods()) {
            if (Modifier.isPublic(method.getModifiers())) {
                test.methods.add(method);
            }
        }
        test.methods.sort(Comparator.comparing(Method::getName));
        for (int i = 0; i < RUNS; i++) {
            test.play(i);
        }
        Check.finish("ModelTest");
    }

    // The same numbers in each run, so that a failure can be seen again.
    private int draw(int least, int most) {
        number = number * 6364136223846793005L + 1442695040888963407L;
        return least + (int) ((number >>> 33) % (most - least + 1));
    }

    /** A number in the range, often an end of it, now and then one beside it. */
    private int drawNear(int least, int most) {
        int kind = draw(0, 79);
        return kind == 0 ? least - 1 : kind == 1 ? most + 1
                : kind < 12 ? least : kind < 24 ? most : draw(least, most);
    }

    /** The place of one of so many, now and then one that is not there. */
    private int drawPlace(int many) {
        return draw(0, 49) == 0 || many == 0 ? draw(-1, many + 1) : draw(0, many - 1);
    }

    private void play(int which) throws ReflectiveOperationException {
        run = which;
        club = new TightFive();
        model = new Model();
        friendly = which % 3 == 0;
        int furniture = which % 5 == 0 ? 20 : 60;
        for (int i = 0; i < furniture; i++) {
            callNamed(FURNITURE[i % FURNITURE.length]);
        }
        for (int i = furniture; i < CALLS; i++) {
            callNamed(drawName());
        }
        ask("checksum");
        ask("isTrue");
    }

    private String drawName() {
        int kind = draw(0, 99);
        if (kind < 8) {
            return "book";
        }
        if (model.on() < 0 && kind < 45) {
            return kind < 40 ? "next" : "close";
        }
        if (kind < 40) {
            return "tell";
        }
        if (kind < 50) {
            return model.level() < 0 ? "heckle" : "answer";
        }
        return kind < 53 ? "end" : kind < 57 ? "drink"
                : methods.get(draw(0, methods.size() - 1)).getName();
    }

    private void callNamed(String name) throws ReflectiveOperationException {
        Method method = find(name);
        Object[] arguments = new Object[method.getParameterCount()];
        for (int i = 0; i < arguments.length; i++) {
            boolean isChar = method.getParameterTypes()[i] == char.class;
            arguments[i] = isChar ? drawKind(name) : (Object) drawArgument(name, i);
        }
        ask(name, arguments);
    }

    private Method find(String name) {
        for (Method method : methods) {
            if (method.getName().equals(name)) {
                return method;
            }
        }
        throw new IllegalArgumentException(name);
    }

    private void ask(String name, Object... arguments) throws ReflectiveOperationException {
        Method asked = find(name);
        Method modelled = Model.class.getDeclaredMethod(name, asked.getParameterTypes());
        String due = answer(modelled, model, arguments);
        String call = "run " + run + ", " + name + Arrays.toString(arguments);
        Check.is(call, answer(asked, club, arguments), due);
    }

    private static String answer(Method method, Object on, Object[] arguments) throws IllegalAccessException {
        try {
            return String.valueOf(method.invoke(on, arguments));
        } catch (InvocationTargetException e) {
            return e.getCause().getClass().getName();
        }
    }

    private char drawKind(String name) {
        String kinds = name.equals("heckle") ? "ldw" : "jjid";
        int place = draw(0, 40);
        return place == 40 ? 'x' : kinds.charAt(place % kinds.length());
    }

    private int drawArgument(String name, int place) {
        switch (name) {
            case "joke":
                return place == 0 ? draw(0, 1) == 0 ? draw(0, 4) : drawNear(0, 99)
                        : place == 1 ? drawSubject() : place == 2 ? drawFacts() : drawPart(place - 3);
            case "comedian":
                return place == 0 ? drawSubjects() : place == 2 ? drawNear(0, 30) : drawNear(0, 100);
            case "table":
                return place == 0 ? drawNear(1, 12) : place == 1 ? friendly ? 0 : drawNear(0, 9)
                        : place == 2 ? 255 - drawFacts()
                        : friendly || draw(0, 2) > 0 ? 0 : drawNear(0, 65535);
            case "best":
            case "bestAt":
                return place == 1 ? drawNear(0, 3) : draw(0, 1) == 0 ? draw(5, 120) : drawNear(5, 600);
            case "price":
                return place == 0 ? drawNear(0, 9999) : drawNear(0, 100);
            case "hadBy":
                return drawSubject();
            case "firstBy":
            case "firstNight":
                return draw(0, 1) == 0 ? draw(0, 4) : drawNear(0, 99);
            default:
                return place == 0 ? drawFirst(name) : drawSecond(name, place);
        }
    }

    private int drawFirst(String name) {
        switch (name) {
            case "tell":
            case "expect":
                return drawOwnJoke();
            case "callback":
            case "tag":
            case "rewrite":
            case "told":
                return drawPlace(model.jokes());
            case "drink":
            case "mood":
            case "laughOf":
            case "heckle":
                return drawPlace(model.tables());
            default:
                return drawPlace(model.comedians());
        }
    }

    private int drawSecond(String name, int place) {
        switch (name) {
            case "give":
                return drawPlace(model.jokes());
            case "drink":
                return drawNear(1, 9);
            case "book":
                return place == 1 ? draw(0, 2) == 0 ? 7 : drawNear(0, 99)
                        : draw(0, 1) == 0 ? draw(60, 120) : drawNear(60, 1800);
            case "tell":
                return draw(0, 1) == 0 ? draw(0, 4) : drawNear(0, 20);
            default:
                return drawPart(place - 1);
        }
    }

    private int drawOwnJoke() {
        List<Integer> own = model.on() < 0 ? new ArrayList<>() : model.jokesOf(model.on());
        boolean any = own.isEmpty() || draw(0, 29) == 0;
        return any ? drawPlace(model.jokes()) : own.get(draw(0, own.size() - 1));
    }

    // Strengths are small as often as great, so that laughs fall on both sides of 0.
    private int drawPart(int place) {
        return place == 1 ? draw(0, 1) == 0 ? draw(5, 20) : drawNear(5, 90)
                : friendly ? drawNear(20, 50) : draw(0, 1) == 0 ? draw(1, 20) : drawNear(1, 50);
    }

    private int drawSubject() {
        return draw(0, 1) == 0 ? draw(0, 2) : drawNear(0, 15);
    }

    private int drawFacts() {
        return friendly || draw(0, 3) > 0 ? 0 : drawNear(0, 255);
    }

    private int drawSubjects() {
        return friendly || draw(0, 3) > 0 ? 65535 : drawNear(0, 65535);
    }
}
