/** Every call where there is nothing yet, and where all places are taken. */
public final class EmptyAndFullTest {
    public static void main(String[] args) {
        nothingToAnswer();
        nothingToNumber();
        nothingToRefuse();
        nobodyOn();
        noTables();
        noJokes();
        fullJokes();
        fullTags();
        fullGiven();
        fullComediansAndBill();
        fullTables();
        fullOfAll();
        Check.finish("EmptyAndFullTest");
    }

    private static void nothingToAnswer() {
        TightFive club = new TightFive();
        Check.is("heads", club.heads(), 0);
        Check.is("on", club.on(), -1);
        Check.is("level", club.level(), -1);
        Check.is("night", club.night(), 0);
        Check.is("checksum", club.checksum(), 7L);
        Check.is("true", club.isTrue(), true);
        Check.is("price before", club.price(0, 0), 0);
        Check.is("door", club.close(), 0);
        Check.is("night behind it", club.night(), 1);
        Check.is("checksum behind it", club.checksum(), 7L);
        Check.is("true behind it", club.isTrue(), true);
        TightFive other = Clubs.plain();
        other.tell(0, 0);
        other.end();
        other.close();
        Check.is("nothing is got of no door", other.got(0), 0L);
    }

    private static void nothingToNumber() {
        Check.fails("callback", Check.INDEX, TightFive::new, c -> c.callback(0, 1, 5));
        Check.fails("tag", Check.INDEX, TightFive::new, c -> c.tag(0, 1, 5));
        Check.fails("rewrite", Check.INDEX, TightFive::new, c -> c.rewrite(0, 1));
        Check.fails("give", Check.INDEX, TightFive::new, c -> c.give(0, 0));
        Check.fails("drink", Check.INDEX, TightFive::new, c -> c.drink(0, 1));
        Check.fails("mood", Check.INDEX, TightFive::new, c -> c.mood(0));
        Check.fails("book", Check.INDEX, TightFive::new, c -> c.book(0, 0, 60));
        Check.fails("tell", Check.INDEX, TightFive::new, c -> c.tell(0, 0));
        Check.fails("laughOf", Check.INDEX, TightFive::new, c -> c.laughOf(0));
        Check.fails("heckle", Check.INDEX, TightFive::new, c -> c.heckle(0, 'l'));
        Check.fails("expect", Check.INDEX, TightFive::new, c -> c.expect(0));
        Check.fails("told", Check.INDEX, TightFive::new, c -> c.told(0));
        Check.fails("stolen", Check.INDEX, TightFive::new, c -> c.stolen(0));
        Check.fails("got", Check.INDEX, TightFive::new, c -> c.got(0));
        Check.fails("groans", Check.INDEX, TightFive::new, c -> c.groans(0));
        Check.fails("isBanned", Check.INDEX, TightFive::new, c -> c.isBanned(0));
        Check.fails("laughs", Check.INDEX, TightFive::new, c -> c.laughs(0));
    }

    private static void nothingToRefuse() {
        Check.fails("next", Check.ELEMENT, TightFive::new, TightFive::next);
        Check.fails("seconds", Check.STATE, TightFive::new, TightFive::seconds);
        Check.fails("isAtLight", Check.STATE, TightFive::new, TightFive::isAtLight);
        Check.fails("end", Check.STATE, TightFive::new, TightFive::end);
        Check.fails("answer", Check.STATE, TightFive::new, c -> c.answer('d'));
        Check.fails("best", Check.STATE, TightFive::new, c -> c.best(5));
        Check.fails("bestAt", Check.STATE, TightFive::new, c -> c.bestAt(5, 0));
        Check.fails("hadBy", Check.ELEMENT, TightFive::new, c -> c.hadBy(0));
        Check.fails("firstBy", Check.ELEMENT, TightFive::new, c -> c.firstBy(0));
        Check.fails("firstNight", Check.ELEMENT, TightFive::new, c -> c.firstNight(0));
        Check.fails("rank", Check.ELEMENT, TightFive::new, c -> c.rank(0));
        Check.fails("laughShare", Check.ARITHMETIC, TightFive::new, TightFive::laughShare);
        Check.fails("meanMood", Check.ARITHMETIC, TightFive::new, TightFive::meanMood);
    }

    private static TightFive ended() {
        TightFive club = Clubs.running();
        club.end();
        return club;
    }

    private static void nobodyOn() {
        Check.fails("tell behind the set", Check.STATE, EmptyAndFullTest::ended, c -> c.tell(0, 0));
        Check.fails("seconds behind the set", Check.STATE, EmptyAndFullTest::ended, TightFive::seconds);
        Check.fails("light behind the set", Check.STATE, EmptyAndFullTest::ended, TightFive::isAtLight);
        Check.fails("end behind the set", Check.STATE, EmptyAndFullTest::ended, TightFive::end);
        Check.fails("heckle behind the set", Check.STATE, EmptyAndFullTest::ended, c -> c.heckle(0, 'l'));
        Check.fails("answer behind the set", Check.STATE, EmptyAndFullTest::ended, c -> c.answer('j'));
        Check.fails("expect behind the set", Check.STATE, EmptyAndFullTest::ended, c -> c.expect(0));
        Check.fails("best behind the set", Check.STATE, EmptyAndFullTest::ended, c -> c.best(60));
        Check.fails("bestAt behind the set", Check.STATE, EmptyAndFullTest::ended, c -> c.bestAt(60, 0));
    }

    private static void noTables() {
        TightFive club = Clubs.solo(100, 0, 0);
        int joke = Clubs.own(club, 0, 50);
        club.tag(joke, 50, 5);
        Check.is("nobody is there to laugh", club.expect(joke), 0);
        Check.is("nobody laughs", club.tell(joke, 0), 0);
        Check.is("its tag is not told", club.seconds(), 10);
        Check.is("no part is laughed at", club.laughShare(), 0.0f);
        Check.is("the best set is empty", club.best(600), 0);
        Check.is("nobody groans", club.groans(0), 0);
        Check.fails("no mood", Check.ARITHMETIC, () -> Clubs.solo(0, 0, 0), TightFive::meanMood);
        club.table(1, 0, 0, 0);
        Check.fails("a table that came behind the part", Check.ELEMENT, () -> {
            TightFive other = Clubs.solo(0, 0, 0);
            other.tell(Clubs.own(other, 0, 20), 0);
            other.table(1, 0, 0, 0);
            return other;
        }, c -> c.laughOf(0));
        Check.is("what was told to nobody was told", club.expect(joke), (50 + 9) / 2 + (50 + 9 + 1) / 2);
    }

    private static void noJokes() {
        TightFive club = Clubs.solo(0, 0, 0);
        club.table(1, 0, 0, 0);
        Check.is("the best set of no jokes", club.best(5), 0);
        Check.is("true without jokes", club.isTrue(), true);
        Check.is("a set of no jokes", club.end(), 0);
        Check.is("the door", club.close(), 0);
    }

    private static void fullJokes() {
        TightFive club = new TightFive();
        for (int i = 0; i < 15; i++) {
            Check.is("a joke", club.joke(0, 0, 0, 20, 10), i);
        }
        Check.is("the last one is a callback", club.callback(14, 20, 10), 15);
        Check.is("the last one is told of", club.told(15), 0);
        Check.fails("a callback of the last one", Check.STATE, EmptyAndFullTest::jokes,
                c -> c.callback(15, 20, 10));
        Check.fails("one more joke", Check.STATE, EmptyAndFullTest::jokes, c -> c.joke(0, 0, 0, 20, 10));
    }

    private static TightFive jokes() {
        TightFive club = new TightFive();
        for (int i = 0; i < 16; i++) {
            club.joke(0, 0, 0, 20, 10);
        }
        return club;
    }

    private static void fullTags() {
        TightFive club = Clubs.solo(0, 0, 0);
        club.table(1, 0, 0, 0);
        int first = Clubs.own(club, 0, 20);
        int second = Clubs.own(club, 1, 20);
        for (int i = 0; i < 3; i++) {
            Check.is("a tag", club.tag(first, 20, 90), i + 1);
        }
        Check.is("a tag of the other joke", club.tag(second, 20, 90), 1);
        // Moods of 5, 10 and 15 are ahead of the tags.
        Check.is("the joke and its 3 tags", club.tell(first, 0), 20 + 21 + 22 + 23);
        Check.is("their seconds", club.seconds(), 10 + 3 * 90);
        Check.fails("a 4th tag", Check.STATE, Clubs::full, c -> c.tag(1, 50, 5));
    }

    private static void fullGiven() {
        TightFive club = Clubs.solo(0, 0, 0);
        club.table(1, 0, 0, 0);
        for (int i = 0; i < 6; i++) {
            Clubs.own(club, i, 20);
        }
        club.joke(6, 6, 0, 50, 5);
        for (int i = 0; i < 6; i++) {
            Check.is("place " + i + " of the best set", club.bestAt(600, i), i);
        }
        Check.is("joke 5 is told", club.tell(5, 0), 20);
        Check.fails("the 7th of all is not theirs", Check.UNSUPPORTED, EmptyAndFullTest::sixOfSeven,
                c -> c.tell(6, 0));
        Check.fails("a 7th joke", Check.STATE, EmptyAndFullTest::sixOfSeven, c -> c.give(0, 6));
        Check.fails("the 6th again", Check.UNSUPPORTED, EmptyAndFullTest::sixOfSeven, c -> c.give(0, 5));
    }

    private static TightFive sixOfSeven() {
        TightFive club = Clubs.solo(0, 0, 0);
        for (int i = 0; i < 6; i++) {
            Clubs.own(club, i, 20);
        }
        club.joke(6, 6, 0, 50, 5);
        return club;
    }

    private static void fullComediansAndBill() {
        TightFive club = new TightFive();
        for (int i = 0; i < 6; i++) {
            Check.is("a comedian", club.comedian(65535, 0, 0, 0), i);
            Check.is("booked", club.book(i, 99 - i, 60), i + 1);
        }
        for (int i = 5; i >= 0; i--) {
            Check.is("by slots", club.next(), i);
            club.end();
        }
        Check.fails("nobody is left", Check.ELEMENT, EmptyAndFullTest::allWereOn, TightFive::next);
        Check.is("the last place", club.rank(5), 5);
        Check.fails("behind the last place", Check.ELEMENT, EmptyAndFullTest::allWereOn, c -> c.rank(6));
        Check.fails("a 7th comedian", Check.STATE, EmptyAndFullTest::allWereOn, c -> c.comedian(0, 0, 0, 0));
    }

    private static TightFive allWereOn() {
        TightFive club = new TightFive();
        for (int i = 0; i < 6; i++) {
            club.comedian(65535, 0, 0, 0);
            club.book(i, 0, 60);
            club.next();
            club.end();
        }
        return club;
    }

    private static void fullTables() {
        TightFive club = Clubs.solo(0, 0, 0);
        int joke = Clubs.own(club, 0, 20);
        for (int i = 0; i < 8; i++) {
            Check.is("a table", club.table(12, 0, 0, i == 7 ? 1 : 0), i);
        }
        Check.is("heads of the full room", club.heads(), 96);
        Check.is("7 tables laugh, the last one groans", club.tell(joke, 0), 12 * (7 * 20 - 20));
        Check.is("the last table", club.laughOf(7), -20);
        // Moods of 5, 5 and -5, of which the last two go to means of 0 and 5.
        Check.is("the mood of the last but one", club.mood(6), 4);
        Check.is("the mood of the last one", club.mood(7), -5 + 10 / 4);
        Check.fails("a 9th table", Check.STATE, Clubs::full, c -> c.table(1, 0, 0, 0));
    }

    /** The greatest numbers everywhere: 16 jokes of 3 tags, 6 comedians, 8 tables of 12 heads. */
    private static void fullOfAll() {
        TightFive club = new TightFive();
        for (int i = 0; i < 16; i++) {
            club.joke(99, 15, 255, 50, 90);
            for (int tag = 0; tag < 3; tag++) {
                club.tag(i, 50, 90);
            }
        }
        for (int i = 0; i < 8; i++) {
            club.table(12, 0, 255, 0);
        }
        for (int i = 0; i < 6; i++) {
            club.comedian(65535, 100, 0, 100);
            for (int joke = 0; joke < 6; joke++) {
                club.give(i, 10 + joke);
            }
        }
        club.price(9999, 100);
        club.book(5, 99, 1800);
        club.next();
        // 50 and 10, then a fifth of moods of 15, 30 and 46 more.
        Check.is("the last joke, by 96 heads", club.tell(15, 20), 96 * (60 + 63 + 66 + 69));
        Check.is("its seconds", club.seconds(), 20 + 4 * 90);
        Check.is("told", club.told(15), 1);
        Check.is("its premise", club.firstBy(99), 5);
        Check.is("one row is 360 seconds long", club.bestAt(379, 0), 10);
        Check.is("the set", club.end(), 96 * 258);
        Check.is("its subject", club.hadBy(15), 5);
        Check.is("all of the others' jokes are stolen", club.stolen(0), 6);
        Check.is("the greatest door", club.close(), 959904);
        Check.is("all of it", club.got(5), 959904L);
        Check.is("true", club.isTrue(), true);
    }
}
