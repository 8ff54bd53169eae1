import java.util.NoSuchElementException;
import java.util.function.Consumer;
import java.util.function.Supplier;

/** What the tests share: they count the answers that are not due, and tell each of them. */
final class Check {
    static final Class<IllegalArgumentException> ARGUMENT = IllegalArgumentException.class;
    static final Class<IllegalStateException> STATE = IllegalStateException.class;
    static final Class<IndexOutOfBoundsException> INDEX = IndexOutOfBoundsException.class;
    static final Class<NoSuchElementException> ELEMENT = NoSuchElementException.class;
    static final Class<UnsupportedOperationException> UNSUPPORTED = UnsupportedOperationException.class;
    static final Class<ArithmeticException> ARITHMETIC = ArithmeticException.class;

    private static int right = 0;
    private static int wrong = 0;

    private Check() {
    }

    static void is(String what, Object got, Object due) {
        if (got.equals(due)) {
            right++;
            return;
        }
        wrong++;
        System.out.println(what + ": answered " + got + ", due is " + due);
    }

    /** The call has to throw just this exception, and to leave the club as a like one stands. */
    static void fails(String what, Class<? extends RuntimeException> due, Supplier<TightFive> setting,
            Consumer<TightFive> call) {
        TightFive club = setting.get();
        String thrown = "nothing";
        try {
            call.accept(club);
        } catch (RuntimeException e) {
            thrown = e.getClass().getName();
            is(what + " is thrown by the program itself", isOwn(e), true);
        }
        is(what + " throws", thrown, due.getName());
        is(what + " changes nothing", stateOf(club), stateOf(setting.get()));
    }

    /** The call has to answer, and may not throw. */
    static void answers(String what, Supplier<TightFive> setting, Consumer<TightFive> call) {
        String thrown = "nothing";
        try {
            call.accept(setting.get());
        } catch (RuntimeException e) {
            thrown = e.getClass().getName();
        }
        is(what + " throws", thrown, "nothing");
    }

    /** Whether a throw statement of the class threw it, and not the machine or its library. */
    static boolean isOwn(Throwable thrown) {
        StackTraceElement[] trace = thrown.getStackTrace();
        return trace.length > 0 && trace[0].getClassName().startsWith("TightFive");
    }

    /** Ends the test; what it throws if an answer was not the one that is due makes the exit code 1. */
    static void finish(String name) {
        System.out.println(name + ": " + right + " as due, " + wrong + " not");
        if (wrong > 0 || right == 0) {
            throw new AssertionError(name + " failed");
        }
    }

    static boolean isAllAsDue() {
        return wrong == 0;
    }

    /** All that a club answers, some 340 calls; the club is of no use behind it. */
    static String stateOf(TightFive club) {
        StringBuilder text = new StringBuilder();
        for (int i = 0; i < 16; i++) {
            int number = i;
            note(text, () -> club.told(number));
            note(text, () -> club.expect(number));
            note(text, () -> club.hadBy(number));
        }
        for (int i = 0; i < 8; i++) {
            int number = i;
            note(text, () -> club.mood(number));
            note(text, () -> club.laughOf(number));
            note(text, () -> club.firstBy(number));
            note(text, () -> club.firstNight(number));
        }
        noteComedians(text, club);
        note(text, club::heads);
        note(text, club::on);
        note(text, club::seconds);
        note(text, club::isAtLight);
        note(text, club::level);
        note(text, () -> club.best(300));
        note(text, () -> club.bestAt(300, 0));
        note(text, club::night);
        note(text, club::laughShare);
        note(text, club::meanMood);
        note(text, club::checksum);
        note(text, club::isTrue);
        noteRestOfNight(text, club);
        return text.toString();
    }

    private static void noteComedians(StringBuilder text, TightFive club) {
        for (int i = 0; i < 6; i++) {
            int number = i;
            note(text, () -> club.stolen(number));
            note(text, () -> club.got(number));
            note(text, () -> club.groans(number));
            note(text, () -> club.isBanned(number));
            note(text, () -> club.laughs(number));
            note(text, () -> club.rank(number));
        }
    }

    // What no call only reads (bookings, the price, fines) is seen by playing the night to its end.
    private static void noteRestOfNight(StringBuilder text, TightFive club) {
        note(text, () -> club.heckle(0, 'l'));
        note(text, club::end);
        for (int i = 0; i < 7; i++) {
            note(text, club::next);
            note(text, club::end);
        }
        note(text, club::close);
        noteComedians(text, club);
        note(text, () -> club.price(0, 0));
        for (int i = 0; i < 6; i++) {
            noteSet(text, club, i);
        }
    }

    // What jokes, tags, comedians and tables are is seen by what each one's jokes would do.
    private static void noteSet(StringBuilder text, TightFive club, int comedian) {
        note(text, () -> club.book(comedian, 0, 60));
        note(text, club::next);
        for (int i = 0; i < 16; i++) {
            int number = i;
            note(text, () -> club.expect(number));
        }
        note(text, () -> club.best(600));
        note(text, () -> club.heckle(0, 'l'));
        note(text, () -> club.answer('j'));
        note(text, club::end);
    }

    private static void note(StringBuilder text, Supplier<Object> call) {
        try {
            text.append(call.get());
        } catch (RuntimeException e) {
            text.append(e.getClass().getSimpleName());
        }
        text.append(' ');
    }
}
