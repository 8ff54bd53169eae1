/** Settings that several tests begin with. */
final class Clubs {
    private Clubs() {
    }

    /** A comedian who has one joke of 20 for a table of one head, and is on. */
    static TightFive plain() {
        TightFive club = new TightFive();
        club.joke(0, 0, 0, 20, 10);
        club.comedian(65535, 0, 0, 0);
        club.give(0, 0);
        club.table(1, 0, 0, 0);
        club.book(0, 0, 600);
        club.next();
        return club;
    }

    /** Two comedians, two tables, a joke with a tag, one that is minded, and a callback. */
    static TightFive open() {
        TightFive club = new TightFive();
        club.joke(0, 0, 0, 20, 10);
        club.tag(0, 10, 5);
        club.joke(1, 1, 1, 30, 8);
        club.callback(0, 25, 6);
        club.comedian(65535, 40, 6, 50);
        club.comedian(1, 90, 0, 100);
        club.give(0, 0);
        club.give(0, 1);
        club.give(0, 2);
        club.give(1, 0);
        club.give(1, 1);
        club.table(4, 1, 0, 0);
        club.table(2, 3, 1, 2);
        club.price(500, 50);
        return club;
    }

    /** The open club with both comedians booked. */
    static TightFive booked() {
        TightFive club = open();
        club.book(0, 5, 100);
        club.book(1, 6, 60);
        return club;
    }

    /** The first one of the booked club is on, and told the joke with the tag. */
    static TightFive running() {
        TightFive club = booked();
        club.next();
        club.tell(0, 0);
        return club;
    }

    /** The running club with a witty heckler at the first table. */
    static TightFive heckled() {
        TightFive club = running();
        club.heckle(0, 'w');
        return club;
    }

    /** The running club with as many jokes, tags of each, comedians and tables as there can be. */
    static TightFive full() {
        TightFive club = running();
        for (int i = 3; i < 16; i++) {
            club.joke(i, i, 0, 10, 10);
        }
        for (int i = 0; i < 3; i++) {
            club.tag(1, 10, 10);
            club.give(0, i + 3);
        }
        for (int i = 2; i < 6; i++) {
            club.comedian(65535, 0, 0, 0);
        }
        for (int i = 2; i < 8; i++) {
            club.table(1, 0, 0, 0);
        }
        return club;
    }
}
