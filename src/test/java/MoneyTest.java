/** Promises 31 to 34: price, close, night, got. */
public final class MoneyTest {
    public static void main(String[] args) {
        price();
        door();
        shares();
        fines();
        noSeconds();
        overNights();
        greatSums();
        nightBegins();
        Check.finish("MoneyTest");
    }

    /** Three comedians with a joke of 10 seconds for a table of so many heads. */
    private static TightFive club(int heads) {
        TightFive club = new TightFive();
        club.joke(0, 0, 0, 20, 10);
        club.table(heads, 0, 0, 0);
        for (int i = 0; i < 3; i++) {
            club.comedian(65535, 0, 0, 0);
            club.give(i, 0);
        }
        return club;
    }

    /** A set of one joke with a wait of 0 to 20, and then answers of 10 seconds each. */
    private static void letOn(TightFive club, int comedian, int wait, int answers) {
        club.book(comedian, 0, 60);
        club.next();
        club.tell(0, wait);
        for (int i = 0; i < answers; i++) {
            club.heckle(0, 'w');
            club.answer('i');
        }
        club.end();
    }

    private static void price() {
        TightFive club = new TightFive();
        Check.is("at first", club.price(9999, 100), 0);
        Check.is("the one before", club.price(0, 0), 9999);
        Check.is("0 before", club.price(5, 5), 0);
        Check.fails("-1 cents", Check.ARGUMENT, Clubs::running, c -> c.price(-1, 0));
        Check.fails("10000 cents", Check.ARGUMENT, Clubs::running, c -> c.price(10000, 0));
        Check.fails("share -1", Check.ARGUMENT, Clubs::running, c -> c.price(0, -1));
        Check.fails("share 101", Check.ARGUMENT, Clubs::running, c -> c.price(0, 101));
    }

    private static void door() {
        TightFive club = club(3);
        Check.is("without a price", club.close(), 0);
        club.price(333, 50);
        Check.is("3 heads", club.close(), 999);
        club.table(12, 0, 0, 0);
        Check.is("heads as it closes", club.close(), 15 * 333);
        club.price(9999, 50);
        Check.is("the price as it closes", club.close(), 15 * 9999);
        Check.is("who was not on", club.got(0), 0L);
        Check.fails("somebody is on", Check.STATE, Clubs::running, TightFive::close);
        Check.is("without tables", new TightFive().close(), 0);
    }

    private static void shares() {
        TightFive club = club(3);
        club.price(333, 50);
        letOn(club, 0, 0, 0);
        letOn(club, 1, 0, 1);
        Check.is("nothing ahead of the close", club.got(1), 0L);
        club.close();
        // The half of 999 is 499, of which 10 seconds of 30 get a third.
        Check.is("10 of 30 seconds", club.got(0), 166L);
        Check.is("20 of 30 seconds", club.got(1), 332L);
        Check.is("who was not on", club.got(2), 0L);
        TightFive whole = club(1);
        whole.price(101, 100);
        letOn(whole, 0, 0, 0);
        letOn(whole, 1, 0, 0);
        letOn(whole, 0, 0, 0);
        whole.close();
        Check.is("20 seconds of two sets", whole.got(0), 67L);
        Check.is("10 seconds", whole.got(1), 33L);
        TightFive none = club(12);
        none.price(9999, 0);
        letOn(none, 0, 0, 0);
        none.close();
        Check.is("a share of 0", none.got(0), 0L);
    }

    private static void fines() {
        TightFive club = club(1);
        letOn(club, 0, 20, 3);
        letOn(club, 1, 20, 4);
        letOn(club, 2, 0, 7);
        letOn(club, 2, 1, 0);
        Check.is("no fine ahead of the close", club.got(2), 0L);
        club.close();
        Check.is("60 of 60 seconds", club.got(0), 0L);
        Check.is("10 above", club.got(1), -20L);
        Check.is("20 above, whatever the second set left", club.got(2), -40L);
        club.close();
        Check.is("once only", club.got(2), -40L);
        Check.is("it is true", club.isTrue(), true);
        TightFive one = club(1);
        letOn(one, 0, 11, 4);
        one.close();
        Check.is("1 above", one.got(0), -2L);
        TightFive paid = club(1);
        paid.price(100, 100);
        letOn(paid, 0, 20, 4);
        paid.close();
        Check.is("the door less the fine", paid.got(0), 80L);
    }

    private static void noSeconds() {
        TightFive club = club(12);
        club.price(9999, 100);
        club.book(0, 0, 60);
        club.next();
        club.end();
        Check.is("the door", club.close(), 12 * 9999);
        Check.is("who used no second", club.got(0), 0L);
        Check.is("the club keeps it", club.isTrue(), true);
    }

    private static void overNights() {
        TightFive club = club(1);
        club.price(100, 100);
        letOn(club, 0, 0, 0);
        club.close();
        letOn(club, 1, 0, 0);
        letOn(club, 0, 0, 2);
        club.close();
        Check.is("100, and 30 of 40 seconds", club.got(0), 175L);
        Check.is("10 of 40 seconds", club.got(1), 25L);
        Check.fails("comedian -1", Check.INDEX, Clubs::running, c -> c.got(-1));
        Check.fails("no comedian", Check.INDEX, Clubs::running, c -> c.got(2));
    }

    private static void greatSums() {
        TightFive club = club(12);
        for (int i = 0; i < 7; i++) {
            club.table(12, 0, 0, 0);
        }
        club.price(9999, 100);
        letOn(club, 1, 0, 0);
        club.book(0, 0, 1800);
        club.next();
        for (int i = 0; i < 100; i++) {
            club.tell(0, 20);
        }
        club.end();
        Check.is("the greatest door", club.close(), 959904);
        Check.is("3000 of 3010 seconds, and 1200 above", club.got(0), 959904L * 3000 / 3010 - 2400);
    }

    private static void nightBegins() {
        TightFive club = Clubs.running();
        Check.is("the first night", club.night(), 0);
        club.end();
        club.close();
        Check.is("the second night", club.night(), 1);
        club.close();
        Check.is("the third night", club.night(), 2);
        Check.fails("bookings are gone", Check.ELEMENT, () -> {
            TightFive closed = Clubs.booked();
            closed.close();
            return closed;
        }, TightFive::next);
        TightFive closed = Clubs.booked();
        closed.close();
        Check.is("who was booked can be booked", closed.book(1, 0, 60), 1);
    }
}
