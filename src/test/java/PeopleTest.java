/** Promises 6 to 11: comedian, give, table, drink, mood, heads. */
public final class PeopleTest {
    public static void main(String[] args) {
        comedian();
        give();
        table();
        drink();
        mood();
        heads();
        Check.finish("PeopleTest");
    }

    private static void comedian() {
        TightFive club = new TightFive();
        Check.is("the lowest numbers", club.comedian(0, 0, 0, 0), 0);
        Check.is("the greatest numbers", club.comedian(65535, 100, 30, 100), 1);
        for (int i = 2; i < 6; i++) {
            Check.is("a further comedian", club.comedian(1, 1, 1, 1), i);
        }
        Check.fails("subjects -1", Check.ARGUMENT, Clubs::running, c -> c.comedian(-1, 0, 0, 0));
        Check.fails("subjects 65536", Check.ARGUMENT, Clubs::running, c -> c.comedian(65536, 0, 0, 0));
        Check.fails("energy -1", Check.ARGUMENT, Clubs::running, c -> c.comedian(0, -1, 0, 0));
        Check.fails("energy 101", Check.ARGUMENT, Clubs::running, c -> c.comedian(0, 101, 0, 0));
        Check.fails("nerves -1", Check.ARGUMENT, Clubs::running, c -> c.comedian(0, 0, -1, 0));
        Check.fails("nerves 31", Check.ARGUMENT, Clubs::running, c -> c.comedian(0, 0, 31, 0));
        Check.fails("wit -1", Check.ARGUMENT, Clubs::running, c -> c.comedian(0, 0, 0, -1));
        Check.fails("wit 101", Check.ARGUMENT, Clubs::running, c -> c.comedian(0, 0, 0, 101));
        Check.fails("comedian 7", Check.STATE, Clubs::full, c -> c.comedian(0, 0, 0, 0));
        Check.fails("comedian 7, out of range", Check.ARGUMENT, Clubs::full, c -> c.comedian(0, 0, 31, 0));
    }

    private static void give() {
        TightFive club = new TightFive();
        for (int i = 0; i < 16; i++) {
            club.joke(i, i, 0, 10, 10);
        }
        club.comedian(0, 0, 0, 0);
        club.comedian(0, 0, 0, 0);
        int[] given = {15, 0, 7, 3, 9, 1};
        for (int i = 0; i < given.length; i++) {
            Check.is("a joke more", club.give(0, given[i]), i + 1);
        }
        Check.is("the same joke to another one", club.give(1, 15), 1);
        Check.fails("to comedian -1", Check.INDEX, Clubs::running, c -> c.give(-1, 0));
        Check.fails("to no comedian", Check.INDEX, Clubs::running, c -> c.give(2, 0));
        Check.fails("joke -1", Check.INDEX, Clubs::running, c -> c.give(0, -1));
        Check.fails("no joke", Check.INDEX, Clubs::running, c -> c.give(0, 3));
        Check.fails("what they have", Check.UNSUPPORTED, Clubs::running, c -> c.give(0, 1));
        Check.fails("the only one that they have", Check.UNSUPPORTED, Clubs::plain, c -> c.give(0, 0));
        Check.fails("what they have, of 6", Check.UNSUPPORTED, Clubs::full, c -> c.give(0, 5));
        Check.fails("joke 7", Check.STATE, Clubs::full, c -> c.give(0, 6));
    }

    private static void table() {
        TightFive club = new TightFive();
        Check.is("the lowest numbers", club.table(1, 0, 0, 0), 0);
        Check.is("the greatest numbers", club.table(12, 9, 255, 65535), 1);
        for (int i = 2; i < 8; i++) {
            Check.is("a further table", club.table(2, 1, 1, 1), i);
            Check.is("its mood", club.mood(i), 0);
        }
        Check.fails("0 heads", Check.ARGUMENT, Clubs::running, c -> c.table(0, 0, 0, 0));
        Check.fails("13 heads", Check.ARGUMENT, Clubs::running, c -> c.table(13, 0, 0, 0));
        Check.fails("distance -1", Check.ARGUMENT, Clubs::running, c -> c.table(1, -1, 0, 0));
        Check.fails("distance 10", Check.ARGUMENT, Clubs::running, c -> c.table(1, 10, 0, 0));
        Check.fails("facts -1", Check.ARGUMENT, Clubs::running, c -> c.table(1, 0, -1, 0));
        Check.fails("facts 256", Check.ARGUMENT, Clubs::running, c -> c.table(1, 0, 256, 0));
        Check.fails("minds -1", Check.ARGUMENT, Clubs::running, c -> c.table(1, 0, 0, -1));
        Check.fails("minds 65536", Check.ARGUMENT, Clubs::running, c -> c.table(1, 0, 0, 65536));
        Check.fails("table 9", Check.STATE, Clubs::full, c -> c.table(1, 0, 0, 0));
        Check.fails("table 9, out of range", Check.ARGUMENT, Clubs::full, c -> c.table(1, 0, 0, 65536));
    }

    private static void drink() {
        TightFive club = new TightFive();
        club.table(1, 0, 0, 0);
        club.table(1, 0, 0, 0);
        Check.is("one drink", club.drink(0, 1), 1);
        Check.is("9 more", club.drink(0, 9), 10);
        Check.is("of another table", club.drink(1, 2), 2);
        for (int i = 0; i < 9; i++) {
            Check.is("9 more again", club.drink(0, 9), 19 + 9 * i < 99 ? 19 + 9 * i : 99);
        }
        Check.is("99 at most", club.drink(0, 9), 99);
        // 7, then 31 times it and the mood of 0, then 31 times it and the drinks, for each table.
        Check.is("99 are kept", club.checksum(), (7L * 961 + 99) * 961 + 2);
        club.close();
        Check.is("a night begins without drinks", club.drink(0, 3), 3);
        Check.fails("table -1", Check.INDEX, Clubs::running, c -> c.drink(-1, 0));
        Check.fails("no table", Check.INDEX, Clubs::running, c -> c.drink(2, 1));
        Check.fails("0 drinks", Check.ARGUMENT, Clubs::running, c -> c.drink(0, 0));
        Check.fails("10 drinks", Check.ARGUMENT, Clubs::running, c -> c.drink(0, 10));
    }

    private static void mood() {
        TightFive club = Clubs.plain();
        Check.is("at first", club.mood(0), 0);
        club.tell(0, 0);
        Check.is("behind a laugh of 20", club.mood(0), 5);
        Check.fails("table -1", Check.INDEX, Clubs::running, c -> c.mood(-1));
        Check.fails("no table", Check.INDEX, Clubs::running, c -> c.mood(2));
        Check.fails("table 8 of 8", Check.INDEX, Clubs::full, c -> c.mood(8));
    }

    private static void heads() {
        TightFive club = new TightFive();
        club.table(3, 0, 0, 0);
        Check.is("of one table", club.heads(), 3);
        club.table(12, 0, 0, 0);
        Check.is("of two tables", club.heads(), 15);
    }
}
