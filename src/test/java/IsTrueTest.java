import java.lang.reflect.Field;

/**
 * Promise 42: isTrue. No call of the face can make it false, so that this test alone reaches into
 * the object's private fields, by their names, and spoils what each part of isTrue looks at.
 */
public final class IsTrueTest {
    public static void main(String[] args) throws ReflectiveOperationException {
        moods();
        money();
        beatenRows();
        rowsOfSeconds();
        rowsOfFour();
        jokesOfWhoIsOn();
        Check.finish("IsTrueTest");
    }

    private static Object read(Object from, String name) throws ReflectiveOperationException {
        Field field = from.getClass().getDeclaredField(name);
        field.setAccessible(true);
        return field.get(from);
    }

    private static void write(Object to, String name, Object value) throws ReflectiveOperationException {
        Field field = to.getClass().getDeclaredField(name);
        field.setAccessible(true);
        field.set(to, value);
    }

    private static boolean isTrueAt(int table, int mood) throws ReflectiveOperationException {
        TightFive club = Clubs.booked();
        int[] moods = (int[]) read(read(club, "scene"), "moods");
        moods[table] = mood;
        return club.isTrue();
    }

    private static void moods() throws ReflectiveOperationException {
        for (int table = 0; table < 2; table++) {
            Check.is("a mood of 100", isTrueAt(table, 100), true);
            Check.is("a mood of -100", isTrueAt(table, -100), true);
            Check.is("a mood of 101", isTrueAt(table, 101), false);
            Check.is("a mood of -101", isTrueAt(table, -101), false);
        }
        Check.is("of a table that is not there", isTrueAt(2, 101), true);
    }

    private static TightFive closed() {
        TightFive club = Clubs.running();
        club.end();
        club.close();
        return club;
    }

    private static void money() throws ReflectiveOperationException {
        for (int by = -1; by <= 1; by++) {
            TightFive club = closed();
            Object till = read(club, "till");
            write(till, "kept", (long) read(till, "kept") + by);
            Check.is("the club kept " + by + " more", club.isTrue(), by == 0);
            TightFive other = closed();
            Object who = ((java.util.List<?>) read(other, "comedians")).get(1);
            write(who, "got", (long) read(who, "got") + by);
            Check.is("a comedian got " + by + " more", other.isTrue(), by == 0);
        }
    }

    /** One who is on has so many jokes of 20 and of such seconds each; all of them are in the best set. */
    private static TightFive club(int jokes, int seconds) {
        TightFive club = Clubs.solo(0, 0, 0);
        // So far away that each head laughs by 8 or 9, for which no joke has to wait.
        club.table(6, 6, 0, 0);
        for (int i = 0; i < jokes; i++) {
            club.joke(i, i, 0, 20, seconds);
            club.give(0, i);
        }
        return club;
    }

    // A search that has no scenes to try more than so many jokes in finds no longer rows.
    private static boolean isTrueWithout(TightFive club, int depth) throws ReflectiveOperationException {
        Object scene = read(club, "scene");
        for (int i = 0; i < depth; i++) {
            scene = read(scene, "ahead");
        }
        write(scene, "ahead", null);
        return club.isTrue();
    }

    private static void beatenRows() throws ReflectiveOperationException {
        for (int jokes = 0; jokes <= 6; jokes++) {
            for (int depth = 1; depth <= 6; depth++) {
                boolean due = depth >= jokes || jokes > 4;
                String what = jokes + " jokes, searched " + depth + " deep";
                Check.is(what, isTrueWithout(club(jokes, 10), depth), due);
            }
        }
    }

    private static void rowsOfSeconds() throws ReflectiveOperationException {
        Check.is("a better row of 300 seconds", isTrueWithout(club(4, 75), 3), false);
        Check.is("of 304 seconds", isTrueWithout(club(4, 76), 3), true);
        TightFive used = club(4, 75);
        used.tell(0, 20);
        used.end();
        used.book(0, 0, 60);
        used.next();
        Check.is("from now on", isTrueWithout(used, 3), false);
        TightFive on = club(4, 75);
        on.tell(0, 20);
        Check.is("with seconds used", isTrueWithout(on, 3), false);
        Check.is("joke 1 ahead of joke 0, in 300 seconds", isTrueWithout(backwards(60), 1), false);
        Check.is("joke 1 ahead of joke 0, in 301 seconds", isTrueWithout(backwards(61), 1), true);
        TightFive above = club(3, 75);
        above.joke(3, 3, 0, 20, 76);
        above.give(0, 3);
        Check.is("a better row of 301 seconds", isTrueWithout(above, 3), true);
    }

    /** Two jokes, for one head, that fit in 300 seconds if the lesser one is first: it needs no wait. */
    private static TightFive backwards(int seconds) {
        TightFive club = Clubs.solo(0, 0, 0);
        club.table(1, 0, 0, 0);
        club.joke(0, 0, 0, 50, 90);
        club.joke(1, 1, 0, 5, 90);
        club.tag(1, 5, 60);
        club.tag(1, 5, seconds);
        club.give(0, 0);
        club.give(0, 1);
        return club;
    }

    /** Four jokes that fit in 300 seconds if one of them, behind which 5 are waited, is the last one. */
    private static TightFive lastOfFour(int last) {
        TightFive club = Clubs.solo(0, 0, 0);
        club.table(1, 0, 0, 0);
        for (int i = 0; i < 16; i++) {
            boolean isLast = i == 12 + last;
            club.joke(i, i, 0, isLast ? 50 : 5, isLast ? 90 : 70);
        }
        for (int i = 12; i < 16; i++) {
            club.give(0, i);
        }
        return club;
    }

    private static void rowsOfFour() throws ReflectiveOperationException {
        for (int last = 0; last < 4; last++) {
            String what = "joke " + (12 + last) + " of 12 to 15 is the last one";
            Check.is(what + ", searched 3 deep", isTrueWithout(lastOfFour(last), 3), false);
            Check.is(what + ", searched 4 deep", isTrueWithout(lastOfFour(last), 4), true);
            Check.is(what + " of the best set", lastOfFour(last).bestAt(300, 3), 12 + last);
        }
    }

    private static void jokesOfWhoIsOn() throws ReflectiveOperationException {
        TightFive club = club(2, 10);
        club.end();
        Check.is("nobody is on", isTrueWithout(club, 1), true);
        TightFive persona = new TightFive();
        persona.comedian(1, 0, 0, 0);
        persona.table(6, 6, 0, 0);
        for (int i = 0; i < 2; i++) {
            persona.joke(i, i, 0, 20, 10);
            persona.give(0, i);
        }
        persona.book(0, 0, 600);
        persona.next();
        Check.is("a longer row is not allowed", isTrueWithout(persona, 1), true);
        TightFive other = club(1, 10);
        other.joke(1, 1, 0, 20, 10);
        Check.is("a longer row is not theirs", isTrueWithout(other, 1), true);
    }
}
