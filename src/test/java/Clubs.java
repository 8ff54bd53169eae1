/** Settings that several tests begin with. */
final class Clubs {
    private Clubs() {
    }

    /** A comedian who has one joke of 20 for a table of one head, and is on. */
    static TightFive plain() {
        TightFive club = new TightFive();
        club.joke(0, 0, 0, 20, 10);
        club.comedian(65535, 0, 0, 0);
        club.give(0, 0);
        club.table(1, 0, 0, 0);
        club.book(0, 0, 600);
        club.next();
        return club;
    }

    /** Two comedians, two tables, a joke with a tag, one that is minded, and a callback. */
    static TightFive open() {
        TightFive club = new TightFive();
        club.joke(0, 0, 0, 20, 10);
        club.tag(0, 10, 5);
        club.joke(1, 1, 1, 30, 8);
        club.callback(0, 25, 6);
        club.comedian(65535, 40, 6, 50);
        club.comedian(1, 90, 0, 100);
        club.give(0, 0);
        club.give(0, 1);
        club.give(0, 2);
        club.give(1, 0);
        club.give(1, 1);
        club.table(4, 1, 0, 0);
        club.table(2, 3, 1, 2);
        club.price(500, 50);
        return club;
    }

    /** The open club with both comedians booked. */
    static TightFive booked() {
        TightFive club = open();
        club.book(0, 5, 100);
        club.book(1, 6, 60);
        return club;
    }

    /** The first one of the booked club is on, and told the joke with the tag. */
    static TightFive running() {
        TightFive club = booked();
        club.next();
        club.tell(0, 0);
        return club;
    }

    /** The running club with a witty heckler at the first table. */
    static TightFive heckled() {
        TightFive club = running();
        club.heckle(0, 'w');
        return club;
    }

    /** The running club with as many jokes, tags of each, comedians and tables as there can be. */
    static TightFive full() {
        TightFive club = running();
        for (int i = 3; i < 16; i++) {
            club.joke(i, i, 0, 10, 10);
        }
        for (int i = 0; i < 3; i++) {
            club.tag(1, 10, 10);
            club.give(0, i + 3);
        }
        for (int i = 2; i < 6; i++) {
            club.comedian(65535, 0, 0, 0);
        }
        for (int i = 2; i < 8; i++) {
            club.table(1, 0, 0, 0);
        }
        return club;
    }

    /** Three jokes, two comedians who have none of them, and two tables; nobody is booked. */
    static TightFive bare() {
        TightFive club = new TightFive();
        for (int i = 0; i < 3; i++) {
            club.joke(i, i, 0, 20, 10);
        }
        for (int i = 0; i < 2; i++) {
            club.comedian(65535, 0, 0, 0);
            club.table(2, 0, 0, 0);
        }
        return club;
    }

    /** A comedian, booked for 1800 seconds, who is on without jokes before a room without tables. */
    static TightFive solo(int energy, int nerves, int wit) {
        TightFive club = new TightFive();
        club.comedian(65535, energy, nerves, wit);
        club.book(0, 0, 1800);
        club.next();
        return club;
    }

    /** One more joke, of 10 seconds, that all know; comedian 0 has it. */
    static int own(TightFive club, int subject, int strength) {
        int joke = club.joke(subject, subject, 0, strength, 10);
        club.give(0, joke);
        return joke;
    }

    /** One more joke, of 10 seconds, that no table knows which knows no facts; comedian 0 has it. */
    static int silent(TightFive club) {
        int joke = club.joke(99, 15, 255, 1, 10);
        club.give(0, joke);
        return joke;
    }

    /** Tells a joke of 10 seconds, with waits, until so many seconds are used: 0, or 10 and more. */
    static void use(TightFive club, int joke, int seconds) {
        int left = seconds - club.seconds();
        // An end in sight, for a program that uses no seconds.
        for (int i = 0; i < 200 && left > 0; i++) {
            int taken = left <= 30 ? left : Math.min(30, left - 10);
            club.tell(joke, taken - 10);
            left = seconds - club.seconds();
        }
        Check.is("seconds used", club.seconds(), seconds);
    }

    /** Ends the set of who is on, and lets a comedian on, for 1800 seconds. */
    static void change(TightFive club, int comedian) {
        club.end();
        club.book(comedian, 0, 1800);
        club.next();
    }

    /** All moods are more by 8; who is on has a wit of 30 to 39, and no table has drinks. */
    static void cheer(TightFive club) {
        club.heckle(0, 'l');
        club.answer('j');
    }

    /** All moods are less by 6; who is on has a wit of 30 to 39, and no table has drinks. */
    static void dampen(TightFive club) {
        club.heckle(0, 'w');
        club.answer('j');
        club.answer('i');
    }

    /** Brings like moods of 0 to another one, by cheering and dampening and a silent joke's 5 less. */
    static void bringTo(TightFive club, int mood, int silent) {
        if (mood % 2 != 0) {
            club.tell(silent, 20);
        }
        int way = mood - club.mood(0);
        int ups = 0;
        // An up is 8 and a down is 6: with the fewest ups that leave downs to make up the rest.
        while (ups < 50 && (8 * ups < way || (8 * ups - way) % 6 != 0)) {
            ups++;
        }
        int downs = (8 * ups - way) / 6;
        // The way back first, so that no mood comes to an end of its range on the way.
        for (int i = 0; i < (way > 0 ? downs : ups); i++) {
            step(club, way < 0);
        }
        for (int i = 0; i < (way > 0 ? ups : downs); i++) {
            step(club, way > 0);
        }
        Check.is("brought to a mood", club.mood(0), mood);
    }

    private static void step(TightFive club, boolean up) {
        if (up) {
            cheer(club);
        } else {
            dampen(club);
        }
    }
}
