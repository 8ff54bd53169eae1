/** What a night begins with, what is kept for good, and what a set and a night take with them. */
public final class NightTest {
    public static void main(String[] args) {
        keptForGood();
        beginsAnew();
        emptyNights();
        leftBookings();
        hecklersOfNight();
        seedsOfNight();
        subjectsOfSets();
        premisesOfNights();
        secondSets();
        expectedAtEdges();
        Check.finish("NightTest");
    }

    /** A night of the full club is over: one was on, with a heckler, and all tables had drinks. */
    private static TightFive closed() {
        TightFive club = Clubs.full();
        for (int i = 0; i < 8; i++) {
            club.drink(i, 9);
        }
        club.tell(1, 20);
        club.heckle(7, 'd');
        club.answer('i');
        club.book(5, 99, 1800);
        club.end();
        club.close();
        return club;
    }

    private static void keptForGood() {
        TightFive club = closed();
        Check.is("the price", club.price(0, 0), 500);
        Check.is("the heads", club.heads(), 12);
        Check.is("the premise of joke 0", club.firstBy(0), 0);
        Check.is("the premise of joke 1", club.firstBy(1), 0);
        Check.is("its night", club.firstNight(1), 0);
        TightFive running = Clubs.running();
        Check.is("the laughs of the night", running.laughs(0), (long) running.end());
        running.close();
        Check.is("are kept", running.laughs(0) > 0, true);
        Check.is("the tags", club.book(0, 0, 60), 1);
        Check.is("who is on", club.next(), 0);
        Check.is("a tag of 3", closedTags(), 3);
    }

    private static int closedTags() {
        TightFive club = Clubs.running();
        club.end();
        club.close();
        club.tag(0, 1, 5);
        return club.tag(0, 1, 5);
    }

    private static void beginsAnew() {
        Check.fails("nothing laughed at", Check.ELEMENT, NightTest::closed, c -> c.laughOf(0));
        Check.fails("no part told", Check.ARITHMETIC, NightTest::closed, TightFive::laughShare);
        Check.fails("nobody booked", Check.ELEMENT, NightTest::closed, TightFive::next);
        Check.fails("subject 0 not had", Check.ELEMENT, NightTest::closed, c -> c.hadBy(0));
        Check.fails("subject 1 not had", Check.ELEMENT, NightTest::closed, c -> c.hadBy(1));
        TightFive club = closed();
        for (int i = 0; i < 16; i++) {
            Check.is("no joke told", club.told(i), 0);
        }
        for (int i = 0; i < 6; i++) {
            Check.is("no groans", club.groans(i), 0);
        }
        for (int i = 0; i < 8; i++) {
            Check.is("the first drink", club.drink(i, 1), 1);
        }
        Check.is("nobody is on", club.on(), -1);
        Check.is("no heckler", club.level(), -1);
        Check.is("the next night", club.night(), 1);
        club.book(0, 0, 60);
        club.next();
        Check.is("the first heckler", club.heckle(0, 'l'), 1);
        Check.is("no seconds", club.seconds(), 0);
    }

    private static void emptyNights() {
        TightFive club = Clubs.open();
        club.drink(0, 3);
        for (int i = 0; i < 20; i++) {
            Check.is("a night", club.night(), i);
            Check.is("its door", club.close(), 3000);
            Check.is("nothing got", club.got(0), 0L);
        }
        Check.is("20 nights", club.night(), 20);
        Check.is("true", club.isTrue(), true);
        club.book(0, 0, 60);
        Check.is("on in night 20", club.next(), 0);
        club.tell(0, 0);
        Check.is("first had in night 20", club.firstNight(0), 20);
    }

    private static void leftBookings() {
        TightFive club = Clubs.booked();
        Check.is("one is on", club.next(), 0);
        club.end();
        Check.is("one is left", club.book(0, 0, 60), 2);
        club.close();
        Check.is("none is left", club.book(0, 99, 60), 1);
        Check.is("the other one", club.book(1, 98, 60), 2);
        Check.is("by the new slots", club.next(), 1);
    }

    private static void hecklersOfNight() {
        TightFive club = Clubs.plain();
        for (int i = 1; i <= 5; i++) {
            Check.is("a heckler", club.heckle(0, 'w'), i);
            Check.is("goes", club.answer('i'), true);
        }
        club.heckle(0, 'l');
        club.answer('i');
        Check.is("a level", club.level(), 1);
        Clubs.change(club, 0);
        Check.is("the heckler is gone with the set", club.level(), -1);
        Check.fails("no heckler is left", Check.STATE, () -> {
            TightFive other = Clubs.heckled();
            Clubs.change(other, 0);
            return other;
        }, c -> c.answer('i'));
        Check.is("the 7th of the night", club.heckle(0, 'l'), 7);
        Check.is("of level 0", club.level(), 0);
    }

    private static TightFive seeded() {
        TightFive club = Clubs.solo(0, 0, 0);
        club.table(1, 0, 0, 0);
        int seed = Clubs.own(club, 0, 20);
        int first = club.callback(seed, 30, 10);
        club.give(0, first);
        club.give(0, club.callback(first, 30, 10));
        return club;
    }

    private static void seedsOfNight() {
        TightFive club = seeded();
        Check.is("no seed was told", club.expect(1), 0);
        Check.is("nor the seed's callback", club.expect(2), 0);
        club.tell(0, 0);
        Check.is("the seed was told", club.expect(1), 30 + 1 + 10);
        Check.is("a seed's seed is none", club.expect(2), 0);
        Clubs.change(club, 0);
        Check.is("told in a set ahead", club.expect(1), 30 + 1 + 10);
        club.tell(1, 0);
        Check.is("the callback was told", club.expect(2), 30 + 3 + 10);
        club.end();
        club.close();
        club.book(0, 0, 60);
        club.next();
        Check.is("none was told in this night", club.expect(1), 0);
        Check.is("nor the callback", club.expect(2), 0);
        TightFive silent = seeded();
        silent.tell(1, 0);
        Check.is("a callback at which nobody could laugh was told", silent.expect(2), 30 - 1 + 10);
        Check.is("and is still without its seed", silent.expect(1), 0);
        silent.tell(0, 0);
        // A mood of -5 and 19 / 4.
        Check.is("its seed was told behind it: halved", silent.expect(1), (30 + 10) / 2);
    }

    private static void subjectsOfSets() {
        TightFive club = Clubs.bare();
        for (int who = 0; who < 2; who++) {
            for (int joke = 0; joke < 3; joke++) {
                club.give(who, joke);
            }
        }
        club.book(0, 0, 1800);
        club.next();
        club.tell(0, 0);
        club.tell(1, 0);
        Clubs.change(club, 1);
        Check.is("the first one of a set", club.hadBy(0), 0);
        Check.is("the second one of a set", club.hadBy(1), 0);
        club.tell(1, 0);
        club.tell(2, 0);
        Clubs.change(club, 0);
        Check.is("had ahead by another one", club.hadBy(1), 0);
        Check.is("not had ahead", club.hadBy(2), 1);
        int own = 20 + Model.cut(club.mood(0), 5);
        Check.is("the own subject", club.expect(0), 2 * (2 * (own / 2)));
        Check.is("the other one's subject", club.expect(2), 2 * (2 * (own / 2 * 2 / 3)));
        club.end();
        club.close();
        Check.fails("nobody in this night", Check.ELEMENT, () -> {
            TightFive other = Clubs.running();
            other.end();
            other.close();
            return other;
        }, c -> c.hadBy(0));
    }

    private static void premisesOfNights() {
        TightFive club = new TightFive();
        club.joke(0, 0, 0, 20, 10);
        club.joke(0, 1, 0, 20, 10);
        club.joke(99, 2, 0, 20, 10);
        club.callback(2, 20, 10);
        for (int who = 0; who < 2; who++) {
            club.comedian(65535, 0, 0, 0);
            for (int joke = 0; joke < 4; joke++) {
                club.give(who, joke);
            }
        }
        club.book(1, 0, 60);
        club.next();
        club.tell(1, 0);
        Check.is("had at once", club.firstBy(0), 1);
        Check.is("stolen at once", club.stolen(0), 2);
        Check.is("not from who had it", club.stolen(1), 0);
        Clubs.change(club, 0);
        club.tell(0, 0);
        Check.is("had by who told it first", club.firstBy(0), 1);
        club.end();
        club.close();
        club.book(0, 0, 60);
        club.next();
        club.tell(3, 0);
        Check.is("by a callback that nobody laughed at", club.firstBy(99), 0);
        Check.is("in night 1", club.firstNight(99), 1);
        Check.is("still in night 0", club.firstNight(0), 0);
        Check.is("2 of each other", club.stolen(1), 2);
        Check.is("and the other way round", club.stolen(0), 2);
    }

    private static void secondSets() {
        TightFive club = Clubs.plain();
        Check.is("the first set", club.tell(0, 0), 20);
        Check.is("its sum", club.end(), 20);
        club.book(0, 0, 60);
        club.next();
        Check.is("no seconds are used", club.seconds(), 0);
        Check.is("60 of 60 seconds are left", club.isAtLight(), true);
        Check.is("an empty set", club.end(), 0);
        Check.is("the sums of the night", club.laughs(0), 20L);
        club.book(0, 0, 71);
        club.next();
        Check.is("71 seconds are left", club.isAtLight(), false);
        Check.is("told in a set ahead: halved", club.tell(0, 0), (20 + 1) / 2);
        Check.is("told twice in this night", club.told(0), 2);
        Check.is("the sum of this set", club.end(), 10);
    }

    private static void expectedAtEdges() {
        TightFive club = Clubs.plain();
        club.tag(0, 1, 5);
        Check.is("expected", club.expect(0), 20 + 2);
        Check.is("nothing is told by it", club.told(0), 0);
        Check.is("no seconds are used by it", club.seconds(), 0);
        Check.is("no mood goes by it", club.mood(0), 0);
        Check.fails("no part is told by it", Check.ARITHMETIC, () -> {
            TightFive other = Clubs.plain();
            other.expect(0);
            other.best(600);
            other.bestAt(600, 0);
            other.isTrue();
            return other;
        }, TightFive::laughShare);
        Check.is("told as expected", club.tell(0, 0), 22);
        // Behind the tag's laugh of 2 no wait is needed; a joke of 10 and more needs one.
        club.end();
        club.book(0, 0, 60);
        club.next();
        Check.is("halved, joke and tag", club.expect(0), (20 + 1) / 2 + 1);
    }
}
