/** Promises 20 to 22: heckle, answer, level. */
public final class HecklerTest {
    public static void main(String[] args) {
        heckle();
        wrongHeckles();
        jokeWorks();
        jokeFails();
        levels();
        ignore();
        doorman();
        wrongAnswers();
        endOfSet();
        laughsLess();
        Check.finish("HecklerTest");
    }

    /** One who is on before two tables of 2 heads. */
    private static TightFive wit(int wit) {
        TightFive club = new TightFive();
        club.joke(0, 0, 0, 20, 10);
        club.comedian(65535, 0, 0, wit);
        club.give(0, 0);
        club.table(2, 0, 0, 0);
        club.table(2, 0, 0, 0);
        club.book(0, 0, 600);
        club.next();
        return club;
    }

    private static boolean works(int wit, char kind, int drinks) {
        TightFive club = wit(wit);
        club.drink(0, 9);
        if (drinks > 0) {
            club.drink(1, drinks);
        }
        club.heckle(1, kind);
        return club.answer('j');
    }

    private static void heckle() {
        TightFive club = wit(100);
        Check.is("no heckler", club.level(), -1);
        Check.is("the first one", club.heckle(1, 'l'), 1);
        Check.is("a level of 0 at first", club.level(), 0);
        club.answer('j');
        Check.is("gone", club.level(), -1);
        Check.is("the second one", club.heckle(0, 'd'), 2);
        club.end();
        club.book(0, 0, 60);
        club.next();
        Check.is("the third one, in another set", club.heckle(0, 'w'), 3);
        club.end();
        club.close();
        club.book(0, 0, 60);
        club.next();
        Check.is("the first one of the next night", club.heckle(0, 'w'), 1);
    }

    private static void wrongHeckles() {
        Check.fails("table -1", Check.INDEX, Clubs::running, c -> c.heckle(-1, 'x'));
        Check.fails("no table", Check.INDEX, Clubs::running, c -> c.heckle(2, 'l'));
        Check.fails("no table, nobody on", Check.INDEX, Clubs::booked, c -> c.heckle(2, 'l'));
        Check.fails("no such kind", Check.ARGUMENT, Clubs::running, c -> c.heckle(0, 'L'));
        Check.fails("the kind of an answer", Check.ARGUMENT, Clubs::running, c -> c.heckle(0, 'j'));
        Check.fails("no such kind, nobody on", Check.ARGUMENT, Clubs::booked, c -> c.heckle(0, (char) 0));
        Check.fails("nobody on", Check.STATE, Clubs::booked, c -> c.heckle(0, 'l'));
        Check.fails("there is one", Check.STATE, Clubs::heckled, c -> c.heckle(1, 'l'));
    }

    private static void jokeWorks() {
        Check.is("wit 30, loud", works(30, 'l', 0), true);
        Check.is("wit 29, loud", works(29, 'l', 0), false);
        Check.is("wit 30, drunk", works(30, 'd', 0), true);
        Check.is("wit 29, drunk", works(29, 'd', 0), false);
        Check.is("wit 45, witty", works(45, 'w', 0), true);
        Check.is("wit 44, witty", works(44, 'w', 0), false);
        Check.is("wit 37, 7 drinks", works(37, 'l', 7), true);
        Check.is("wit 36, 7 drinks", works(36, 'l', 7), false);
        TightFive club = wit(30);
        club.heckle(0, 'l');
        club.answer('j');
        Check.is("its mood", club.mood(0), 8);
        Check.is("the mood of the other table", club.mood(1), 8);
        Check.is("seconds", club.seconds(), 10);
    }

    private static void jokeFails() {
        TightFive club = wit(29);
        club.heckle(0, 'l');
        Check.is("it does not work", club.answer('j'), false);
        Check.is("its mood", club.mood(0), -6);
        Check.is("the mood of the other table", club.mood(1), -6);
        Check.is("a level more", club.level(), 1);
        Check.is("seconds", club.seconds(), 10);
        for (int i = 0; i < 4; i++) {
            club.answer('j');
        }
        Check.is("3 at most", club.level(), 3);
        Check.is("seconds of 5 answers", club.seconds(), 50);
    }

    private static boolean worksBehind(int wit, int ignored) {
        TightFive club = wit(wit);
        club.heckle(0, 'l');
        for (int i = 0; i < ignored; i++) {
            club.answer('i');
        }
        return club.answer('j');
    }

    private static void levels() {
        Check.is("wit 40 of level 1", worksBehind(40, 1), true);
        Check.is("wit 39 of level 1", worksBehind(39, 1), false);
        Check.is("wit 60 of level 3", worksBehind(60, 3), true);
        Check.is("wit 59 of level 3", worksBehind(59, 3), false);
        Check.is("wit 60, ignored 5 times", worksBehind(60, 5), true);
    }

    private static void ignore() {
        TightFive club = wit(0);
        club.heckle(0, 'w');
        Check.is("a witty one goes", club.answer('i'), true);
        Check.is("gone", club.level(), -1);
        Check.is("seconds", club.seconds(), 10);
        club.heckle(0, 'd');
        Check.is("a drunk one stays", club.answer('i'), false);
        Check.is("a level more", club.level(), 1);
        for (int i = 0; i < 4; i++) {
            Check.is("and stays", club.answer('i'), false);
        }
        Check.is("3 at most", club.level(), 3);
        Check.is("moods stay", club.mood(0) + club.mood(1), 0);
    }

    private static void doorman() {
        TightFive club = wit(0);
        club.heckle(1, 'l');
        Check.is("a doorman works", club.answer('d'), true);
        Check.is("gone", club.level(), -1);
        Check.is("a head less", club.heads(), 3);
        Check.is("the mood of the table", club.mood(1), -20);
        Check.is("the mood of the other table", club.mood(0), 0);
        Check.is("seconds", club.seconds(), 10);
        Check.is("2 heads by 20, 1 by 16", club.tell(0, 0), 56);
        club.end();
        club.close();
        Check.is("a head less in the next night", club.heads(), 3);
    }

    private static TightFive lastHead() {
        TightFive club = wit(0);
        club.heckle(1, 'l');
        club.answer('d');
        club.heckle(1, 'l');
        return club;
    }

    private static void wrongAnswers() {
        Check.fails("no such way", Check.ARGUMENT, Clubs::heckled, c -> c.answer('w'));
        Check.fails("no such way, no heckler", Check.ARGUMENT, Clubs::running, c -> c.answer('J'));
        Check.fails("no heckler", Check.STATE, Clubs::running, c -> c.answer('j'));
        Check.fails("nobody on", Check.STATE, Clubs::booked, c -> c.answer('i'));
        Check.fails("no heckler any more", Check.STATE, () -> {
            TightFive club = Clubs.heckled();
            club.answer('i');
            return club;
        }, c -> c.answer('d'));
        Check.fails("the last head", Check.UNSUPPORTED, HecklerTest::lastHead, c -> c.answer('d'));
        Check.is("the last head can be ignored", lastHead().answer('i'), false);
    }

    private static void endOfSet() {
        TightFive club = wit(0);
        club.heckle(0, 'l');
        club.answer('i');
        club.end();
        Check.is("gone with the set", club.level(), -1);
        club.book(0, 0, 60);
        club.next();
        Check.is("not there in the next set", club.expect(0), 80);
        Check.is("the next one", club.heckle(0, 'l'), 2);
        Check.is("begins at level 0", club.level(), 0);
    }

    private static void laughsLess() {
        TightFive club = wit(0);
        club.tag(0, 10, 5);
        Check.is("without a heckler", club.expect(0), 4 * 20 + 4 * 11);
        club.heckle(0, 'l');
        // 15 moves the moods by 3, of which a fifth is nothing.
        Check.is("with a heckler", club.expect(0), 4 * 15 + 4 * 5);
        Check.is("told with a heckler", club.tell(0, 0), 80);
    }
}
