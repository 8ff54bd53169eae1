/** Promises 12 to 14, 18 and 36: book, next, on, isAtLight, isBanned. */
public final class BillTest {
    public static void main(String[] args) {
        bookAndNext();
        bookWrongly();
        onceMore();
        nextBeginsAnew();
        light();
        banned();
        Check.finish("BillTest");
    }

    private static TightFive fourComedians() {
        TightFive club = new TightFive();
        for (int i = 0; i < 4; i++) {
            club.comedian(65535, 0, 0, 0);
        }
        return club;
    }

    private static void bookAndNext() {
        TightFive club = fourComedians();
        Check.is("the greatest numbers", club.book(3, 99, 1800), 1);
        Check.is("a slot", club.book(2, 7, 60), 2);
        Check.is("the lowest numbers", club.book(1, 0, 60), 3);
        Check.is("the same slot behind", club.book(0, 7, 60), 4);
        Check.is("on ahead", club.on(), -1);
        Check.is("the lowest slot", club.next(), 1);
        Check.is("on", club.on(), 1);
        club.end();
        Check.is("on behind", club.on(), -1);
        Check.is("of like slots the first one booked", club.next(), 2);
        club.end();
        Check.is("then the other one", club.next(), 0);
        club.end();
        Check.is("the greatest slot", club.next(), 3);
    }

    private static void bookWrongly() {
        Check.fails("comedian -1", Check.INDEX, Clubs::open, c -> c.book(-1, -1, 0));
        Check.fails("no comedian", Check.INDEX, Clubs::open, c -> c.book(2, 0, 60));
        Check.fails("slot -1", Check.ARGUMENT, Clubs::open, c -> c.book(0, -1, 60));
        Check.fails("slot 100", Check.ARGUMENT, Clubs::open, c -> c.book(0, 100, 60));
        Check.fails("59 seconds", Check.ARGUMENT, Clubs::open, c -> c.book(0, 0, 59));
        Check.fails("1801 seconds", Check.ARGUMENT, Clubs::open, c -> c.book(0, 0, 1801));
        Check.fails("the first one booked", Check.UNSUPPORTED, Clubs::booked, c -> c.book(0, 0, 60));
        Check.fails("the last one booked", Check.UNSUPPORTED, Clubs::booked, c -> c.book(1, 0, 60));
        Check.fails("on already", Check.UNSUPPORTED, Clubs::running, c -> c.book(0, 0, 60));
        Check.fails("on already, out of range", Check.ARGUMENT, Clubs::running, c -> c.book(0, 0, 59));
        Check.fails("banned", Check.UNSUPPORTED, () -> closedWithGroans(12), c -> c.book(0, 0, 60));
        Check.fails("somebody is on", Check.STATE, Clubs::running, TightFive::next);
        Check.fails("nobody is booked, somebody is on", Check.STATE, Clubs::plain, TightFive::next);
        Check.fails("nobody is booked", Check.ELEMENT, Clubs::open, TightFive::next);
    }

    private static void onceMore() {
        TightFive club = Clubs.booked();
        club.next();
        club.end();
        Check.is("who was on is booked again", club.book(0, 0, 60), 2);
        Check.is("and comes on again", club.next(), 0);
    }

    private static void nextBeginsAnew() {
        TightFive club = Clubs.plain();
        club.tell(0, 20);
        club.end();
        club.book(0, 0, 60);
        club.next();
        Check.is("no seconds are used", club.seconds(), 0);
        Check.is("nothing was told in this set", club.end(), 0);
    }

    private static void light() {
        TightFive club = Clubs.plain();
        club.end();
        club.book(0, 0, 100);
        club.next();
        Check.is("100 seconds are left", club.isAtLight(), false);
        club.tell(0, 19);
        Check.is("71 seconds are left", club.isAtLight(), false);
        club.heckle(0, 'w');
        club.answer('i');
        Check.is("61 seconds are left", club.isAtLight(), false);
        TightFive other = Clubs.plain();
        other.end();
        other.book(0, 0, 100);
        other.next();
        other.tell(0, 20);
        other.heckle(0, 'w');
        other.answer('i');
        Check.is("60 seconds are left", other.isAtLight(), true);
        for (int i = 0; i < 4; i++) {
            other.tell(0, 20);
        }
        Check.is("none are left", other.isAtLight(), true);
        Check.fails("nobody is on", Check.STATE, Clubs::booked, TightFive::isAtLight);
    }

    /** A night in which the only comedian had so many groans. */
    private static TightFive withGroans(int many) {
        TightFive club = new TightFive();
        club.joke(0, 0, 0, 1, 5);
        club.comedian(65535, 0, 0, 0);
        club.comedian(65535, 0, 0, 0);
        club.give(0, 0);
        club.table(1, 0, 0, 1);
        club.book(0, 0, 600);
        club.next();
        for (int i = 0; i < many; i++) {
            club.tell(0, 0);
        }
        club.end();
        return club;
    }

    private static TightFive closedWithGroans(int many) {
        TightFive club = withGroans(many);
        club.close();
        return club;
    }

    private static void banned() {
        Check.is("11 groans", closedWithGroans(11).isBanned(0), false);
        TightFive club = withGroans(12);
        Check.is("12 groans", club.groans(0), 12);
        Check.is("in the same night", club.isBanned(0), false);
        Check.is("booked in the same night", club.book(0, 0, 60), 1);
        club.close();
        Check.is("in the next night", club.isBanned(0), true);
        Check.is("who had none", club.isBanned(1), false);
        Check.is("who had none is booked", club.book(1, 0, 60), 1);
        club.close();
        Check.is("in the night behind that", club.isBanned(0), true);
        club.close();
        Check.is("in the third night", club.isBanned(0), false);
        Check.is("booked in the third night", club.book(0, 0, 60), 1);
        Check.fails("comedian -1", Check.INDEX, Clubs::running, c -> c.isBanned(-1));
        Check.fails("no comedian", Check.INDEX, Clubs::running, c -> c.isBanned(2));
        TightFive spread = closedWithGroans(11);
        spread.book(0, 0, 60);
        spread.next();
        spread.tell(0, 0);
        spread.end();
        spread.close();
        Check.is("11 groans and 1 of another night", spread.isBanned(0), false);
    }
}
