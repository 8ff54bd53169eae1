/** Where several exceptions of a call apply, the one that the document lists first is thrown. */
public final class OrderTest {
    public static void main(String[] args) {
        writing();
        people();
        bill();
        telling();
        hecklers();
        bestSets();
        Check.finish("OrderTest");
    }

    /** The full club with a heckler. */
    private static TightFive fullAndHeckled() {
        TightFive club = Clubs.full();
        club.heckle(0, 'l');
        return club;
    }

    private static void writing() {
        Check.fails("17th joke, premise", Check.ARGUMENT, Clubs::full, c -> c.joke(100, 0, 0, 1, 5));
        Check.fails("17th joke, subject", Check.ARGUMENT, Clubs::full, c -> c.joke(0, 16, 0, 1, 5));
        Check.fails("17th joke, facts", Check.ARGUMENT, Clubs::full, c -> c.joke(0, 0, 256, 1, 5));
        Check.fails("17th joke, strength", Check.ARGUMENT, Clubs::full, c -> c.joke(0, 0, 0, 51, 5));
        Check.fails("17th joke, seconds", Check.ARGUMENT, Clubs::full, c -> c.joke(0, 0, 0, 1, 4));
        Check.fails("no seed, strength", Check.INDEX, Clubs::running, c -> c.callback(3, 0, 10));
        Check.fails("no seed, seconds", Check.INDEX, Clubs::running, c -> c.callback(-1, 10, 91));
        Check.fails("no seed, 17th", Check.INDEX, Clubs::full, c -> c.callback(16, 10, 10));
        Check.fails("no seed, 17th, strength", Check.INDEX, Clubs::full, c -> c.callback(16, 51, 10));
        Check.fails("17th callback, strength", Check.ARGUMENT, Clubs::full, c -> c.callback(0, 51, 10));
        Check.fails("17th callback, seconds", Check.ARGUMENT, Clubs::full, c -> c.callback(0, 10, 4));
        Check.fails("tag of none, strength", Check.INDEX, Clubs::running, c -> c.tag(3, 51, 10));
        Check.fails("tag of none, seconds", Check.INDEX, Clubs::running, c -> c.tag(-1, 10, 4));
        Check.fails("4th tag, strength", Check.ARGUMENT, Clubs::full, c -> c.tag(1, 0, 10));
        Check.fails("4th tag, seconds", Check.ARGUMENT, Clubs::full, c -> c.tag(1, 10, 91));
        Check.fails("rewrite none, strength", Check.INDEX, Clubs::running, c -> c.rewrite(3, 51));
        Check.fails("rewrite -1, strength", Check.INDEX, Clubs::running, c -> c.rewrite(-1, 0));
    }

    private static void people() {
        Check.fails("7th comedian, subjects", Check.ARGUMENT, Clubs::full, c -> c.comedian(65536, 0, 0, 0));
        Check.fails("7th comedian, energy", Check.ARGUMENT, Clubs::full, c -> c.comedian(0, 101, 0, 0));
        Check.fails("7th comedian, nerves", Check.ARGUMENT, Clubs::full, c -> c.comedian(0, 0, 31, 0));
        Check.fails("7th comedian, wit", Check.ARGUMENT, Clubs::full, c -> c.comedian(0, 0, 0, 101));
        Check.fails("9th table, heads", Check.ARGUMENT, Clubs::full, c -> c.table(0, 0, 0, 0));
        Check.fails("9th table, distance", Check.ARGUMENT, Clubs::full, c -> c.table(1, 10, 0, 0));
        Check.fails("9th table, facts", Check.ARGUMENT, Clubs::full, c -> c.table(1, 0, 256, 0));
        Check.fails("9th table, minds", Check.ARGUMENT, Clubs::full, c -> c.table(1, 0, 0, 65536));
        Check.fails("no joke for who has 6", Check.INDEX, Clubs::full, c -> c.give(0, 16));
        Check.fails("neither is there", Check.INDEX, Clubs::full, c -> c.give(6, 16));
        Check.fails("one of 6 once more", Check.UNSUPPORTED, Clubs::full, c -> c.give(0, 0));
        Check.fails("drinks for no table, none", Check.INDEX, Clubs::running, c -> c.drink(2, 0));
        Check.fails("drinks for no table, 10", Check.INDEX, Clubs::running, c -> c.drink(-1, 10));
    }

    private static void bill() {
        Check.fails("book nobody, slot", Check.INDEX, Clubs::running, c -> c.book(2, 100, 60));
        Check.fails("book nobody, seconds", Check.INDEX, Clubs::running, c -> c.book(-1, 0, 1801));
        Check.fails("booked already, slot", Check.ARGUMENT, Clubs::booked, c -> c.book(1, -1, 60));
        Check.fails("booked already, seconds", Check.ARGUMENT, Clubs::booked, c -> c.book(1, 0, 59));
        Check.fails("on already, slot", Check.ARGUMENT, Clubs::running, c -> c.book(0, 100, 60));
        Check.fails("on already, seconds", Check.ARGUMENT, Clubs::running, c -> c.book(0, 0, 1801));
        Check.fails("banned, slot", Check.ARGUMENT, OrderTest::banned, c -> c.book(0, 100, 60));
        Check.fails("banned, seconds", Check.ARGUMENT, OrderTest::banned, c -> c.book(0, 0, 59));
        Check.fails("on, and none is booked", Check.STATE, Clubs::plain, TightFive::next);
    }

    /** Comedian 0 had 12 groans in the night ahead. */
    private static TightFive banned() {
        TightFive club = Clubs.plain();
        club.table(1, 0, 0, 1);
        for (int i = 0; i < 12; i++) {
            club.tell(0, 0);
        }
        club.end();
        club.close();
        return club;
    }

    /** Who is on has neither joke 2, nor may they tell joke 1. */
    private static TightFive persona() {
        TightFive club = Clubs.open();
        club.book(1, 0, 60);
        club.next();
        return club;
    }

    private static void telling() {
        Check.fails("no joke, wait", Check.INDEX, Clubs::running, c -> c.tell(3, 21));
        Check.fails("no joke, nobody on", Check.INDEX, Clubs::booked, c -> c.tell(3, 0));
        Check.fails("no joke, wait, nobody on", Check.INDEX, Clubs::booked, c -> c.tell(-1, -1));
        Check.fails("wait, nobody on", Check.ARGUMENT, Clubs::booked, c -> c.tell(0, 21));
        Check.fails("wait, not theirs", Check.ARGUMENT, OrderTest::persona, c -> c.tell(2, 21));
        Check.fails("wait, not allowed", Check.ARGUMENT, OrderTest::persona, c -> c.tell(1, -1));
        Check.fails("no joke expected, nobody on", Check.INDEX, Clubs::booked, c -> c.expect(3));
        Check.fails("no table, nothing told", Check.INDEX, Clubs::booked, c -> c.laughOf(2));
        Check.fails("table -1, nothing told", Check.INDEX, Clubs::booked, c -> c.laughOf(-1));
    }

    private static void hecklers() {
        Check.fails("no table, kind", Check.INDEX, Clubs::running, c -> c.heckle(2, 'x'));
        Check.fails("no table, nobody on", Check.INDEX, Clubs::booked, c -> c.heckle(-1, 'l'));
        Check.fails("no table, there is one", Check.INDEX, Clubs::heckled, c -> c.heckle(2, 'l'));
        Check.fails("no table, kind, there is one", Check.INDEX, Clubs::heckled, c -> c.heckle(2, 'x'));
        Check.fails("no table of 8, there is one", Check.INDEX, OrderTest::fullAndHeckled,
                c -> c.heckle(8, 'l'));
        Check.fails("kind, nobody on", Check.ARGUMENT, Clubs::booked, c -> c.heckle(0, 'j'));
        Check.fails("kind, there is one", Check.ARGUMENT, Clubs::heckled, c -> c.heckle(0, 'i'));
        Check.fails("way, no heckler", Check.ARGUMENT, Clubs::running, c -> c.answer('l'));
        Check.fails("way, nobody on", Check.ARGUMENT, Clubs::booked, c -> c.answer('w'));
        Check.fails("way, last head", Check.ARGUMENT, OrderTest::lastHead, c -> c.answer('x'));
        Check.fails("last head", Check.UNSUPPORTED, OrderTest::lastHead, c -> c.answer('d'));
    }

    private static TightFive lastHead() {
        TightFive club = Clubs.plain();
        club.heckle(0, 'l');
        return club;
    }

    private static void bestSets() {
        Check.fails("best seconds, nobody on", Check.ARGUMENT, Clubs::booked, c -> c.best(601));
        Check.fails("seconds, nobody on", Check.ARGUMENT, Clubs::booked, c -> c.bestAt(601, 0));
        Check.fails("seconds, nobody on, place", Check.ARGUMENT, Clubs::booked, c -> c.bestAt(4, -1));
        Check.fails("seconds, place", Check.ARGUMENT, Clubs::running, c -> c.bestAt(601, 6));
        Check.fails("nobody on, place", Check.STATE, Clubs::booked, c -> c.bestAt(600, 6));
        Check.fails("nobody on, place -1", Check.STATE, Clubs::booked, c -> c.bestAt(5, -1));
    }
}
