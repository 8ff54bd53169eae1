import java.util.NoSuchElementException;

/** Promises 24, 25 and 42: best, bestAt, isTrue. */
public final class BestTest {
    public static void main(String[] args) {
        emptyRow();
        fewerJokes();
        lowerNumbers();
        secondsAndWaits();
        fromNowOn();
        behindGroans();
        tagsAsTold();
        waitOfTwenty();
        persona();
        seedsForCallbacks();
        likeSums();
        rewrittenAndGiven();
        wrongCalls();
        isTrue();
        Check.finish("BestTest");
    }

    /** One who is on with jokes of these strengths and 10 seconds each, before one head. */
    private static TightFive club(int... strengths) {
        TightFive club = new TightFive();
        club.comedian(65535, 0, 0, 0);
        for (int i = 0; i < strengths.length; i++) {
            club.joke(i, i, 0, strengths[i], 10);
        }
        for (int i = strengths.length - 1; i >= 0; i--) {
            club.give(0, i);
        }
        club.table(1, 0, 0, 0);
        club.book(0, 0, 600);
        club.next();
        return club;
    }

    private static void rowIs(String what, TightFive club, int seconds, int... due) {
        for (int i = 0; i < due.length; i++) {
            Check.is(what + ", place " + i, club.bestAt(seconds, i), due[i]);
        }
        try {
            Check.is(what + ", no more places", club.bestAt(seconds, due.length), "thrown");
        } catch (NoSuchElementException e) {
            Check.is(what + ", no more places", "thrown", "thrown");
        }
    }

    private static void emptyRow() {
        TightFive club = club();
        Check.is("without jokes", club.best(600), 0);
        rowIs("without jokes", club, 600);
        TightFive minded = club(20);
        minded.table(1, 0, 0, 1);
        minded.table(1, 9, 0, 1);
        Check.is("only laughs below 0", minded.best(600), 0);
        rowIs("only laughs below 0", minded, 600);
        TightFive asked = club(20);
        rowIs("10 seconds", asked, 10, 0);
        rowIs("9 seconds, asked behind 10", asked, 9);
    }

    private static void fewerJokes() {
        TightFive club = club(20);
        club.joke(9, 9, 1, 50, 5);
        club.give(0, 1);
        Check.is("a joke that nobody knows adds nothing", club.best(600), 20);
        rowIs("a joke that nobody knows", club, 600, 0);
        TightFive like = club(20, 20);
        like.joke(2, 2, 0, 41, 22);
        like.give(0, 2);
        // The first two laugh by 20 and, behind a wait of 2 and with a mood of 5, by 21.
        Check.is("one joke of 41 or two", like.best(22), 41);
        rowIs("one joke of 41 or two", like, 22, 2);
    }

    private static void lowerNumbers() {
        TightFive club = club(20, 20, 20);
        rowIs("one of like jokes", club, 10, 0);
        rowIs("two of like jokes", club, 22, 0, 1);
        rowIs("three of like jokes", club, 600, 0, 1, 2);
        rowIs("six jokes", club(20, 20, 20, 20, 20, 20), 600, 0, 1, 2, 3, 4, 5);
        TightFive last = club(10, 30, 30);
        rowIs("the greater ones", last, 23, 1, 2);
    }

    private static void secondsAndWaits() {
        TightFive club = club(20, 20);
        Check.is("9 seconds", club.best(9), 0);
        Check.is("10 seconds", club.best(10), 20);
        Check.is("21 seconds", club.best(21), 20);
        Check.is("22 seconds, 2 of which are waited", club.best(22), 41);
    }

    private static void fromNowOn() {
        TightFive club = club(20, 20, 20);
        club.tell(0, 0);
        Check.is("the wait for what was told counts", club.best(11), 0);
        Check.is("12 seconds", club.best(12), 21);
        rowIs("12 seconds", club, 12, 1);
        // 21, half of 22, and 22; the told one last would be 21, 22 and half of 23.
        Check.is("all, one of which is told again", club.best(600), 54);
        rowIs("all, one of which is told again", club, 600, 1, 0, 2);
        club.heckle(0, 'l');
        Check.is("with the heckler", club.best(12), 16);
    }

    private static void behindGroans() {
        TightFive club = club(50, 20);
        club.joke(2, 2, 0, 20, 10);
        club.give(0, 2);
        club.end();
        club.table(9, 0, 0, 1);
        club.book(0, 0, 600);
        club.next();
        Check.is("9 groans of 50", club.tell(0, 0), 50 - 450);
        Check.is("no wait below 0", club.best(9), 0);
        Check.is("no wait", club.best(10) > 0, true);
    }

    private static void tagsAsTold() {
        TightFive club = club(10);
        club.tag(0, 1, 5);
        club.tag(0, 50, 90);
        club.table(1, 2, 0, 0);
        // 10 and 6, then 1 and -3: the second tag is not told.
        Check.is("14 seconds", club.best(14), 0);
        Check.is("15 seconds", club.best(15), 14);
        Check.is("its sum", club.expect(0), 14);
    }

    private static void waitOfTwenty() {
        TightFive club = new TightFive();
        club.comedian(65535, 0, 0, 0);
        club.joke(0, 0, 0, 20, 10);
        club.joke(1, 1, 0, 50, 10);
        club.give(0, 0);
        club.give(0, 1);
        club.table(12, 0, 0, 0);
        club.book(0, 0, 600);
        club.next();
        club.tell(0, 0);
        for (int i = 0; i < 11; i++) {
            club.heckle(0, 'l');
            club.answer('d');
        }
        // 240 laughed; for one head that is a wait of 24, so the row waits 20 and steps on it.
        Check.is("29 seconds", club.best(29), 0);
        Check.is("30 seconds", club.best(30), 50 - 20 - 10);
        Check.is("without stepping", club.expect(1), 50 - 20);
        Check.is("told so", club.tell(1, 20), 20);
    }

    private static void persona() {
        TightFive club = new TightFive();
        club.comedian(2, 0, 0, 0);
        club.joke(0, 0, 0, 50, 5);
        club.joke(1, 1, 0, 20, 5);
        club.joke(2, 1, 0, 50, 5);
        club.give(0, 0);
        club.give(0, 1);
        club.table(1, 0, 0, 0);
        club.book(0, 0, 600);
        club.next();
        Check.is("only what they have and may tell", club.best(600), 20);
        rowIs("only what they have and may tell", club, 600, 1);
        Check.is("it is true", club.isTrue(), true);
    }

    private static void seedsForCallbacks() {
        TightFive club = club(1);
        club.callback(0, 40, 10);
        club.give(0, 1);
        club.table(1, 1, 0, 0);
        // The seed is 1 and -1, so that moods are less by 5; its callback is 10 more.
        Check.is("a seed of 0 for its callback", club.best(20), 49 + 47);
        rowIs("a seed of 0 for its callback", club, 20, 0, 1);
        Check.is("no seed without seconds for both", club.best(19), 0);
        rowIs("no seed without seconds for both", club, 19);
        club.tell(0, 0);
        Check.is("the seed was told", club.best(10), 96);
        rowIs("the seed was told", club, 10, 1);
        TightFive bad = club(50);
        bad.callback(0, 50, 10);
        bad.give(0, 1);
        bad.table(1, 0, 0, 1);
        bad.table(1, 9, 0, 0);
        Check.is("the seed alone is above 0", bad.best(10), 50 - 50 + 32);
        TightFive below = club(5);
        below.callback(0, 50, 10);
        below.give(0, 1);
        below.table(1, 9, 0, 0);
        Check.is("the seed", below.expect(0), 5 - 13);
        // Moods of 1 and -3 are less by 5, then go to -5 and -7: the callback is a fifth of those less.
        Check.is("a seed of -8 for its callback", below.best(20), -8 + (50 - 1 + 10) + (50 - 18 - 1 + 10));
        rowIs("a seed of -8 for its callback", below, 20, 0, 1);
    }

    private static void likeSums() {
        TightFive nothing = club(20);
        nothing.end();
        nothing.table(1, 0, 0, 1);
        nothing.book(0, 0, 60);
        nothing.next();
        Check.is("a row of 0", nothing.expect(0), 0);
        rowIs("the empty row is shorter", nothing, 600);
        // 20 alone, and 0 of what nobody knows ahead of it or behind it.
        TightFive silent = club(20, 20);
        silent.joke(2, 2, 1, 50, 5);
        silent.give(0, 2);
        rowIs("without what adds nothing", silent, 600, 0, 1);
        // Joke 0 is the second one, behind either one of two like jokes: ahead of them, 4 are waited.
        TightFive like = club(41, 20, 20);
        rowIs("the lower one of like ones", like, 23, 1, 0);
        Check.is("its sum", like.best(23), 20 + 41 + 5 / 5);
        rowIs("with 4 seconds to wait", like, 24, 0, 1);
        Check.is("its sum", like.best(24), 41 + 20 + 10 / 5);
        TightFive last = club(20, 20, 20, 20, 20, 20);
        rowIs("5 of 6 like ones", last, 5 * 10 + 4 * 2, 0, 1, 2, 3, 4);
        rowIs("1 second less", last, 5 * 10 + 4 * 2 - 1, 0, 1, 2, 3);
    }

    private static void rewrittenAndGiven() {
        TightFive club = club(20, 30);
        rowIs("the greater one", club, 10, 1);
        club.rewrite(0, 31);
        rowIs("the one that was rewritten", club, 10, 0);
        club.joke(2, 2, 0, 32, 10);
        rowIs("one more is not theirs yet", club, 10, 0);
        club.give(0, 2);
        rowIs("one more is theirs", club, 10, 2);
        club.tag(1, 50, 5);
        rowIs("with its tag it is too long", club, 14, 2);
        rowIs("with its tag", club, 15, 1);
        club.tell(1, 0);
        // The tag of 51 is told last, for which 5 seconds are waited.
        rowIs("behind a telling", club, 15, 2);
        rowIs("without seconds to wait", club, 14);
    }

    private static void wrongCalls() {
        Check.fails("best of 4 seconds", Check.ARGUMENT, Clubs::running, c -> c.best(4));
        Check.fails("best of 601 seconds", Check.ARGUMENT, Clubs::running, c -> c.best(601));
        Check.fails("best of 4 seconds of nobody", Check.ARGUMENT, Clubs::booked, c -> c.best(4));
        Check.fails("best of nobody", Check.STATE, Clubs::booked, c -> c.best(5));
        Check.fails("place in 4 seconds", Check.ARGUMENT, Clubs::running, c -> c.bestAt(4, -1));
        Check.fails("place in 601 seconds", Check.ARGUMENT, Clubs::running, c -> c.bestAt(601, 0));
        Check.fails("place of nobody", Check.STATE, Clubs::booked, c -> c.bestAt(60, -1));
        Check.fails("place -1", Check.ELEMENT, Clubs::running, c -> c.bestAt(60, -1));
        Check.fails("no such place", Check.ELEMENT, Clubs::running, c -> c.bestAt(600, 3));
        Check.fails("a place beyond all jokes", Check.ELEMENT, Clubs::running, c -> c.bestAt(600, 6));
        Check.fails("place in 5 seconds", Check.ELEMENT, Clubs::running, c -> c.bestAt(5, 0));
        Check.is("the least seconds", club(20).best(5), 0);
        Check.is("the most seconds", club(20).best(600), 20);
    }

    private static void isTrue() {
        Check.is("of the open club", Clubs.open().isTrue(), true);
        Check.is("of the running club", Clubs.running().isTrue(), true);
        Check.is("of the heckled club", Clubs.heckled().isTrue(), true);
        Check.is("of the full club", Clubs.full().isTrue(), true);
        Check.is("with 4 jokes", club(20, 30, 10, 40).isTrue(), true);
        Check.is("with 5 jokes", club(20, 30, 10, 40, 50).isTrue(), true);
        // All four take 4 times 90 seconds and the waits: a row of 300 has fewer of them.
        TightFive slow = new TightFive();
        slow.comedian(65535, 0, 0, 0);
        slow.table(1, 0, 0, 0);
        for (int i = 0; i < 4; i++) {
            slow.joke(i, i, 0, 50, 90);
            slow.give(0, i);
        }
        slow.book(0, 0, 600);
        slow.next();
        Check.is("rows beyond 300 seconds do not count", slow.isTrue(), true);
        TightFive closed = Clubs.running();
        closed.end();
        closed.close();
        Check.is("behind a night", closed.isTrue(), true);
    }
}
