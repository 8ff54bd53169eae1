/** Promises 35, 37 to 39 and 41: groans, laughs, rank, laughShare, checksum. */
public final class SumsTest {
    public static void main(String[] args) {
        groans();
        laughs();
        rank();
        laughShare();
        checksum();
        Check.finish("SumsTest");
    }

    private static TightFive groaned() {
        TightFive club = Clubs.running();
        club.table(7, 0, 1, 2);
        club.tell(1, 0);
        return club;
    }

    private static void groans() {
        TightFive club = groaned();
        Check.is("of two tables, whatever their heads", club.groans(0), 2);
        club.tell(1, 20);
        Check.is("of two tables and two parts", club.groans(0), 4);
        Check.is("who told nothing", club.groans(1), 0);
        club.end();
        Check.is("behind the set", club.groans(0), 4);
        club.book(0, 0, 60);
        club.next();
        club.tell(1, 20);
        Check.is("of both sets", club.groans(0), 6);
        club.end();
        club.close();
        Check.is("in the next night", club.groans(0), 0);
        Check.fails("comedian -1", Check.INDEX, Clubs::running, c -> c.groans(-1));
        Check.fails("no comedian", Check.INDEX, Clubs::running, c -> c.groans(2));
    }

    private static void laughs() {
        TightFive club = Clubs.plain();
        Check.is("at first", club.laughs(0), 0L);
        club.tell(0, 0);
        Check.is("at once", club.laughs(0), 20L);
        club.tell(0, 20);
        Check.is("the half of 21 more", club.laughs(0), 30L);
        club.end();
        club.close();
        club.book(0, 0, 60);
        club.next();
        club.table(1, 0, 0, 1);
        club.table(2, 0, 0, 1);
        Check.is("20 of one, and 3 groans", club.tell(0, 0), -40);
        Check.is("over all nights", club.laughs(0), -10L);
        Check.fails("comedian -1", Check.INDEX, Clubs::running, c -> c.laughs(-1));
        Check.fails("no comedian", Check.INDEX, Clubs::running, c -> c.laughs(2));
    }

    private static void rank() {
        TightFive club = Clubs.plain();
        for (int i = 1; i < 5; i++) {
            club.comedian(65535, 0, 0, 0);
            club.give(i, 0);
        }
        Check.is("of like ones the lowest number", club.rank(0), 0);
        Check.is("of like ones the greatest number", club.rank(4), 4);
        club.end();
        club.book(3, 0, 60);
        club.next();
        club.tell(0, 0);
        club.end();
        club.table(12, 0, 0, 1);
        club.book(1, 0, 60);
        club.next();
        club.tell(0, 0);
        int[] due = {3, 0, 2, 4, 1};
        for (int i = 0; i < due.length; i++) {
            Check.is("20 for 3, below 0 for 1, place " + i, club.rank(i), due[i]);
        }
        Check.fails("place -1", Check.ELEMENT, Clubs::running, c -> c.rank(-1));
        Check.fails("no such place", Check.ELEMENT, Clubs::running, c -> c.rank(2));
    }

    private static void laughShare() {
        TightFive club = Clubs.plain();
        club.joke(1, 1, 1, 20, 10);
        club.give(0, 1);
        club.tag(0, 10, 5);
        club.tell(0, 0);
        Check.is("the joke and the tag", club.laughShare(), 1.0f);
        club.tell(1, 20);
        Check.is("a laugh of 0 is not above 0", club.laughShare(), 2.0f / 3.0f);
        club.end();
        club.book(0, 0, 60);
        club.next();
        club.tell(1, 20);
        club.tell(1, 20);
        club.tell(1, 20);
        club.tell(1, 20);
        Check.is("of both sets", club.laughShare(), 2.0f / 7.0f);
        club.end();
        club.close();
        club.book(0, 0, 60);
        club.next();
        club.tell(1, 0);
        Check.is("of the next night", club.laughShare(), 0.0f);
        TightFive quiet = Clubs.plain();
        quiet.rewrite(0, 1);
        quiet.tell(0, 0);
        Check.is("a laugh of 1 is above 0", quiet.laughShare(), 1.0f);
        Check.fails("none told", Check.ARITHMETIC, Clubs::booked, TightFive::laughShare);
        Check.fails("none told in this night", Check.ARITHMETIC, () -> {
            TightFive closed = Clubs.running();
            closed.end();
            closed.close();
            return closed;
        }, TightFive::laughShare);
    }

    private static void checksum() {
        TightFive club = Clubs.plain();
        club.joke(0, 0, 0, 10, 10);
        club.drink(0, 5);
        club.tell(0, 20);
        // The mood is 7, and there are 5 drinks; a laugh of 30, nothing got; told once, and not.
        long due = ((7L * 31 + 7) * 31 + 5) * 961 + 30 * 31;
        Check.is("in the night", club.checksum(), (due * 31 + 1) * 31);
        club.price(200, 50);
        club.end();
        club.close();
        // The mood is 3, without drinks; a laugh of 30, 100 got; neither joke was told.
        due = (7L * 31 + 3) * 31;
        Check.is("in the next night", club.checksum(), ((due * 31 + 30) * 31 + 100) * 961);
        // 2 numbers for each table and comedian, one for each joke: it wraps around.
        TightFive full = new TightFive();
        due = 7;
        for (int i = 0; i < 16; i++) {
            full.joke(0, 0, 0, 10, 10);
            due *= i < 8 ? 31 * 31 * 31 : i < 14 ? 31 * 31 * 31 : 31;
            if (i < 8) {
                full.table(1, 0, 0, 0);
            } else if (i < 14) {
                full.comedian(0, 0, 0, 0);
            }
        }
        Check.is("of the full club", full.checksum(), due);
    }
}
