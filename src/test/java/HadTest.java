/** Promises 26 to 30: told, hadBy, firstBy, firstNight, stolen. */
public final class HadTest {
    public static void main(String[] args) {
        told();
        hadBy();
        first();
        stolen();
        Check.finish("HadTest");
    }

    /** Two comedians with two jokes each of premise 99, subject 15, and premise 0, subject 0. */
    private static TightFive twoComedians() {
        TightFive club = new TightFive();
        for (int i = 0; i < 2; i++) {
            club.joke(99, 15, 0, 20, 10);
            club.joke(0, 0, 0, 20, 10);
        }
        for (int who = 0; who < 2; who++) {
            club.comedian(65535, 0, 0, 0);
            for (int joke = 0; joke < 4; joke++) {
                club.give(who, joke);
            }
        }
        club.table(1, 0, 0, 0);
        return club;
    }

    private static void letOn(TightFive club, int comedian) {
        club.book(comedian, 0, 60);
        club.next();
    }

    private static void told() {
        TightFive club = twoComedians();
        Check.is("at first", club.told(0), 0);
        letOn(club, 0);
        club.tell(0, 0);
        club.tell(0, 0);
        club.tell(1, 0);
        Check.is("twice", club.told(0), 2);
        Check.is("once", club.told(1), 1);
        Check.is("the same premise is not the same joke", club.told(2), 0);
        club.end();
        letOn(club, 1);
        club.tell(0, 0);
        Check.is("by another one", club.told(0), 3);
        club.end();
        club.close();
        Check.is("in the next night", club.told(0), 0);
        Check.fails("joke -1", Check.INDEX, Clubs::running, c -> c.told(-1));
        Check.fails("no joke", Check.INDEX, Clubs::running, c -> c.told(3));
    }

    private static TightFive bothTold() {
        TightFive club = twoComedians();
        letOn(club, 1);
        club.tell(0, 0);
        club.end();
        letOn(club, 0);
        club.tell(0, 0);
        club.tell(1, 0);
        return club;
    }

    private static void hadBy() {
        TightFive club = bothTold();
        Check.is("had as the set ended", club.hadBy(15), 1);
        Check.fails("not had ahead of the end", Check.ELEMENT, HadTest::bothTold, c -> c.hadBy(0));
        club.end();
        Check.is("had by who had it ahead", club.hadBy(15), 1);
        Check.is("had by the other one", club.hadBy(0), 0);
        Check.fails("subject -1", Check.ARGUMENT, Clubs::running, c -> c.hadBy(-1));
        Check.fails("subject 16", Check.ARGUMENT, Clubs::running, c -> c.hadBy(16));
        Check.fails("nobody", Check.ELEMENT, Clubs::running, c -> c.hadBy(5));
        Check.fails("had in another night", Check.ELEMENT, () -> {
            TightFive closed = bothTold();
            closed.end();
            closed.close();
            return closed;
        }, c -> c.hadBy(15));
    }

    private static void first() {
        TightFive club = bothTold();
        Check.is("by who told it first", club.firstBy(99), 1);
        Check.is("at once", club.firstBy(0), 0);
        Check.is("in the first night", club.firstNight(99), 0);
        TightFive later = twoComedians();
        letOn(later, 0);
        later.tell(0, 0);
        later.end();
        later.close();
        later.close();
        letOn(later, 1);
        later.tell(2, 0);
        later.tell(3, 0);
        Check.is("for good", later.firstBy(99), 0);
        Check.is("the night stays", later.firstNight(99), 0);
        Check.is("of the third night", later.firstBy(0), 1);
        Check.is("the third night", later.firstNight(0), 2);
        Check.fails("premise -1", Check.ARGUMENT, Clubs::running, c -> c.firstBy(-1));
        Check.fails("premise 100", Check.ARGUMENT, Clubs::running, c -> c.firstBy(100));
        Check.fails("nobody", Check.ELEMENT, Clubs::running, c -> c.firstBy(1));
        Check.fails("the last premise", Check.ELEMENT, Clubs::running, c -> c.firstBy(99));
        Check.fails("night of premise -1", Check.ARGUMENT, Clubs::running, c -> c.firstNight(-1));
        Check.fails("night of premise 100", Check.ARGUMENT, Clubs::running, c -> c.firstNight(100));
        Check.fails("night of nobody", Check.ELEMENT, Clubs::running, c -> c.firstNight(1));
        Check.fails("night of the last premise", Check.ELEMENT, Clubs::running, c -> c.firstNight(99));
    }

    private static void stolen() {
        TightFive club = new TightFive();
        club.joke(5, 0, 0, 20, 10);
        club.joke(5, 1, 0, 20, 10);
        club.joke(6, 0, 0, 20, 10);
        club.callback(0, 20, 10);
        club.comedian(65535, 0, 0, 0);
        club.comedian(65535, 0, 0, 0);
        club.give(0, 0);
        club.give(1, 1);
        club.give(1, 2);
        Check.is("nobody told any", club.stolen(1), 0);
        letOn(club, 0);
        club.tell(0, 0);
        Check.is("one of the premise of the other one", club.stolen(1), 1);
        Check.is("the own premise", club.stolen(0), 0);
        club.give(1, 3);
        club.give(1, 0);
        Check.is("with a callback and the joke itself", club.stolen(1), 3);
        club.end();
        letOn(club, 1);
        club.tell(2, 0);
        Check.is("what they told first is not stolen", club.stolen(1), 3);
        Check.is("what the other one has not", club.stolen(0), 0);
        club.give(0, 2);
        Check.is("what the other one has", club.stolen(0), 1);
        club.end();
        club.close();
        Check.is("for good", club.stolen(1), 3);
        Check.fails("comedian -1", Check.INDEX, Clubs::running, c -> c.stolen(-1));
        Check.fails("no comedian", Check.INDEX, Clubs::running, c -> c.stolen(2));
    }
}
