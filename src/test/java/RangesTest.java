import java.util.function.Supplier;

/**
 * Each number that a call takes: the least and the greatest one in range are taken, and those
 * beside them, and far beyond them, are refused; so with the first and the last place of what is
 * numbered, and the places beside those.
 */
public final class RangesTest {
    // An object is good for 512 calls; 128 signs leave enough of them to ask for its state.
    private static final int SIGNS_A_CLUB = 128;

    private interface Call {
        void on(TightFive club, int number);
    }

    public static void main(String[] args) {
        jokes();
        callbacksAndTags();
        comediansAndTables();
        giveAndDrink();
        bill();
        telling();
        kindsAndWays();
        bestSets();
        had();
        money();
        comedians();
        rank();
        Check.finish("RangesTest");
    }

    private static void range(String what, Supplier<TightFive> setting, int least, int most, Call call) {
        for (int number : new int[] {least, most}) {
            Check.answers(what + " " + number, setting, c -> call.on(c, number));
        }
        for (int number : new int[] {Integer.MIN_VALUE, least - 1, most + 1, Integer.MAX_VALUE}) {
            Check.fails(what + " " + number, Check.ARGUMENT, setting, c -> call.on(c, number));
        }
    }

    private static void places(String what, Supplier<TightFive> setting, int many, Call call) {
        for (int place : new int[] {0, many - 1}) {
            Check.answers(what + " " + place, setting, c -> call.on(c, place));
        }
        for (int place : new int[] {Integer.MIN_VALUE, -1, many, Integer.MAX_VALUE}) {
            Check.fails(what + " " + place, Check.INDEX, setting, c -> call.on(c, place));
        }
    }

    private static void jokes() {
        range("premise", Clubs::running, 0, 99, (c, i) -> c.joke(i, 0, 0, 1, 5));
        range("subject", Clubs::running, 0, 15, (c, i) -> c.joke(0, i, 0, 1, 5));
        range("facts", Clubs::running, 0, 255, (c, i) -> c.joke(0, 0, i, 1, 5));
        range("strength", Clubs::running, 1, 50, (c, i) -> c.joke(0, 0, 0, i, 5));
        range("seconds", Clubs::running, 5, 90, (c, i) -> c.joke(0, 0, 0, 1, i));
        places("rewritten joke", Clubs::running, 3, (c, i) -> c.rewrite(i, 20));
        range("strength rewritten", Clubs::running, 1, 50, (c, i) -> c.rewrite(0, i));
        places("told of joke", Clubs::running, 3, TightFive::told);
    }

    private static void callbacksAndTags() {
        places("seed", Clubs::running, 3, (c, i) -> c.callback(i, 20, 10));
        range("strength of a callback", Clubs::running, 1, 50, (c, i) -> c.callback(0, i, 5));
        range("seconds of a callback", Clubs::running, 5, 90, (c, i) -> c.callback(0, 1, i));
        places("tagged joke", Clubs::running, 3, (c, i) -> c.tag(i, 20, 10));
        range("strength of a tag", Clubs::running, 1, 50, (c, i) -> c.tag(0, i, 5));
        range("seconds of a tag", Clubs::running, 5, 90, (c, i) -> c.tag(0, 1, i));
    }

    private static void comediansAndTables() {
        range("subjects", Clubs::running, 0, 65535, (c, i) -> c.comedian(i, 0, 0, 0));
        range("energy", Clubs::running, 0, 100, (c, i) -> c.comedian(0, i, 0, 0));
        range("nerves", Clubs::running, 0, 30, (c, i) -> c.comedian(0, 0, i, 0));
        range("wit", Clubs::running, 0, 100, (c, i) -> c.comedian(0, 0, 0, i));
        range("heads", Clubs::running, 1, 12, (c, i) -> c.table(i, 0, 0, 0));
        range("distance", Clubs::running, 0, 9, (c, i) -> c.table(1, i, 0, 0));
        range("facts that are known", Clubs::running, 0, 255, (c, i) -> c.table(1, 0, i, 0));
        range("subjects that are minded", Clubs::running, 0, 65535, (c, i) -> c.table(1, 0, 0, i));
        places("mood of table", Clubs::running, 2, TightFive::mood);
    }

    private static void giveAndDrink() {
        places("given to comedian", Clubs::bare, 2, (c, i) -> c.give(i, 0));
        places("given joke", Clubs::bare, 3, (c, i) -> c.give(0, i));
        places("drinks of table", Clubs::running, 2, (c, i) -> c.drink(i, 1));
        range("drinks", Clubs::running, 1, 9, (c, i) -> c.drink(0, i));
    }

    private static void bill() {
        places("booked comedian", Clubs::bare, 2, (c, i) -> c.book(i, 0, 60));
        range("slot", Clubs::open, 0, 99, (c, i) -> c.book(0, i, 60));
        range("seconds booked", Clubs::open, 60, 1800, (c, i) -> c.book(0, 0, i));
    }

    private static void telling() {
        places("told joke", Clubs::running, 3, (c, i) -> c.tell(i, 0));
        range("wait", Clubs::running, 0, 20, (c, i) -> c.tell(0, i));
        places("expected joke", Clubs::running, 3, TightFive::expect);
        places("laugh of table", Clubs::running, 2, TightFive::laughOf);
        places("heckler at table", Clubs::running, 2, (c, i) -> c.heckle(i, 'l'));
    }

    private static boolean isRefused(TightFive club, char sign, boolean isWay) {
        try {
            if (isWay) {
                club.answer(sign);
            } else {
                club.heckle(0, sign);
            }
            return false;
        } catch (IllegalArgumentException e) {
            return true;
        }
    }

    // All signs: those beside the letters, the great letters, and those of which a byte is one.
    private static void kindsAndWays() {
        for (int first = 0; first <= Character.MAX_VALUE; first += SIGNS_A_CLUB) {
            signsFrom(first, "ldw", false, Clubs::running);
            signsFrom(first, "jid", true, Clubs::heckled);
        }
        for (char kind : new char[] {'l', 'd', 'w'}) {
            Check.is("kind " + kind, isRefused(Clubs.running(), kind, false), false);
        }
        for (char way : new char[] {'j', 'i', 'd'}) {
            Check.is("way " + way, isRefused(Clubs.heckled(), way, true), false);
        }
    }

    private static void signsFrom(int first, String letters, boolean isWay, Supplier<TightFive> setting) {
        TightFive club = setting.get();
        for (int i = first; i < first + SIGNS_A_CLUB; i++) {
            char sign = (char) i;
            if (letters.indexOf(sign) < 0) {
                Check.is("sign " + i + " is refused", isRefused(club, sign, isWay), true);
            }
        }
        Check.is("no sign changed anything", Check.stateOf(club), Check.stateOf(setting.get()));
    }

    private static void bestSets() {
        range("seconds of the best set", Clubs::running, 5, 600, TightFive::best);
        for (int seconds : new int[] {Integer.MIN_VALUE, 4, 601, Integer.MAX_VALUE}) {
            Check.fails("place in " + seconds, Check.ARGUMENT, Clubs::running, c -> c.bestAt(seconds, 0));
        }
        Check.is("places in 600 seconds", placesIn(Clubs.plain(), 600), 1);
        Check.is("places in 10 seconds", placesIn(Clubs.plain(), 10), 1);
        Check.is("places in 5 seconds", placesIn(Clubs.plain(), 5), 0);
        for (int place : new int[] {Integer.MIN_VALUE, -1, 1, 2, 6, Integer.MAX_VALUE}) {
            Check.fails("place " + place + " of 1", Check.ELEMENT, Clubs::plain, c -> c.bestAt(600, place));
            Check.fails("place " + place + " of 0", Check.ELEMENT, Clubs::plain, c -> c.bestAt(5, place));
        }
        Check.fails("place 0 of 0", Check.ELEMENT, Clubs::plain, c -> c.bestAt(5, 0));
    }

    private static int placesIn(TightFive club, int seconds) {
        int places = 0;
        try {
            for (; places < 16; places++) {
                club.bestAt(seconds, places);
            }
        } catch (java.util.NoSuchElementException e) {
            return places;
        }
        return places;
    }

    /** The first and the last premise and subject are had, and no other ones. */
    private static TightFive hadEnds() {
        TightFive club = Clubs.solo(0, 0, 0);
        for (int i = 0; i < 2; i++) {
            club.joke(99 * i, 15 * i, 0, 20, 10);
            club.give(0, i);
            club.tell(i, 0);
        }
        club.end();
        return club;
    }

    private static void had() {
        range("subject had", RangesTest::hadEnds, 0, 15, TightFive::hadBy);
        range("premise had", RangesTest::hadEnds, 0, 99, TightFive::firstBy);
        range("premise had in night", RangesTest::hadEnds, 0, 99, TightFive::firstNight);
        for (int subject = 1; subject < 15; subject++) {
            int not = subject;
            Check.fails("subject " + not, Check.ELEMENT, RangesTest::hadEnds, c -> c.hadBy(not));
        }
        for (int premise : new int[] {1, 98}) {
            Check.fails("premise " + premise, Check.ELEMENT, RangesTest::hadEnds, c -> c.firstBy(premise));
            Check.fails("its night", Check.ELEMENT, RangesTest::hadEnds, c -> c.firstNight(premise));
        }
    }

    private static void money() {
        range("price", Clubs::running, 0, 9999, (c, i) -> c.price(i, 0));
        range("share", Clubs::running, 0, 100, (c, i) -> c.price(0, i));
    }

    private static void comedians() {
        places("stolen by comedian", Clubs::running, 2, TightFive::stolen);
        places("got by comedian", Clubs::running, 2, TightFive::got);
        places("groans of comedian", Clubs::running, 2, TightFive::groans);
        places("ban of comedian", Clubs::running, 2, TightFive::isBanned);
        places("laughs of comedian", Clubs::running, 2, TightFive::laughs);
    }

    private static void rank() {
        for (int place : new int[] {0, 1}) {
            Check.answers("rank " + place, Clubs::running, c -> c.rank(place));
        }
        for (int place : new int[] {Integer.MIN_VALUE, -1, 2, Integer.MAX_VALUE}) {
            Check.fails("rank " + place, Check.ELEMENT, Clubs::running, c -> c.rank(place));
        }
    }
}
