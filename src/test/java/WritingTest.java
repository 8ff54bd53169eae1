/** Promises 1 to 5: a new object, joke, callback, tag, rewrite. */
public final class WritingTest {
    public static void main(String[] args) {
        newObject();
        joke();
        callback();
        callbackTakesFromSeed();
        tag();
        rewrite();
        Check.finish("WritingTest");
    }

    private static void newObject() {
        TightFive club = new TightFive();
        Check.is("heads of a new club", club.heads(), 0);
        Check.is("on of a new club", club.on(), -1);
        Check.is("level of a new club", club.level(), -1);
        Check.is("night of a new club", club.night(), 0);
        Check.is("checksum of a new club", club.checksum(), 7L);
        Check.is("a new club is true", club.isTrue(), true);
        Check.fails("told of none", Check.INDEX, TightFive::new, c -> c.told(0));
        Check.fails("got of none", Check.INDEX, TightFive::new, c -> c.got(0));
        Check.fails("mood of none", Check.INDEX, TightFive::new, c -> c.mood(0));
        Check.fails("rank of none", Check.ELEMENT, TightFive::new, c -> c.rank(0));
    }

    private static void joke() {
        TightFive club = new TightFive();
        Check.is("the lowest numbers", club.joke(0, 0, 0, 1, 5), 0);
        Check.is("the greatest numbers", club.joke(99, 15, 255, 50, 90), 1);
        for (int i = 2; i < 16; i++) {
            Check.is("a further joke", club.joke(1, 1, 1, 10, 10), i);
        }
        Check.fails("premise -1", Check.ARGUMENT, Clubs::running, c -> c.joke(-1, 0, 0, 1, 5));
        Check.fails("premise 100", Check.ARGUMENT, Clubs::running, c -> c.joke(100, 0, 0, 1, 5));
        Check.fails("subject -1", Check.ARGUMENT, Clubs::running, c -> c.joke(0, -1, 0, 1, 5));
        Check.fails("subject 16", Check.ARGUMENT, Clubs::running, c -> c.joke(0, 16, 0, 1, 5));
        Check.fails("facts -1", Check.ARGUMENT, Clubs::running, c -> c.joke(0, 0, -1, 1, 5));
        Check.fails("facts 256", Check.ARGUMENT, Clubs::running, c -> c.joke(0, 0, 256, 1, 5));
        Check.fails("strength 0", Check.ARGUMENT, Clubs::running, c -> c.joke(0, 0, 0, 0, 5));
        Check.fails("strength 51", Check.ARGUMENT, Clubs::running, c -> c.joke(0, 0, 0, 51, 5));
        Check.fails("4 seconds", Check.ARGUMENT, Clubs::running, c -> c.joke(0, 0, 0, 1, 4));
        Check.fails("91 seconds", Check.ARGUMENT, Clubs::running, c -> c.joke(0, 0, 0, 1, 91));
        Check.fails("joke 17", Check.STATE, Clubs::full, c -> c.joke(0, 0, 0, 1, 5));
        Check.fails("joke 17, out of range", Check.ARGUMENT, Clubs::full, c -> c.joke(0, 0, 0, 0, 5));
    }

    private static void callback() {
        TightFive club = new TightFive();
        club.joke(0, 0, 0, 10, 10);
        Check.is("a callback", club.callback(0, 1, 5), 1);
        Check.is("a callback of a callback", club.callback(1, 50, 90), 2);
        Check.fails("seed -1", Check.INDEX, Clubs::running, c -> c.callback(-1, 0, 0));
        Check.fails("the seed itself", Check.INDEX, Clubs::running, c -> c.callback(3, 10, 10));
        Check.fails("strength 0", Check.ARGUMENT, Clubs::running, c -> c.callback(0, 0, 5));
        Check.fails("strength 51", Check.ARGUMENT, Clubs::running, c -> c.callback(0, 51, 5));
        Check.fails("4 seconds", Check.ARGUMENT, Clubs::running, c -> c.callback(0, 1, 4));
        Check.fails("91 seconds", Check.ARGUMENT, Clubs::running, c -> c.callback(0, 1, 91));
        Check.fails("joke 17", Check.STATE, Clubs::full, c -> c.callback(0, 10, 10));
        Check.fails("joke 17 with no seed", Check.INDEX, Clubs::full, c -> c.callback(16, 10, 10));
        Check.fails("joke 17, out of range", Check.ARGUMENT, Clubs::full, c -> c.callback(0, 0, 10));
    }

    private static void callbackTakesFromSeed() {
        TightFive club = new TightFive();
        club.joke(8, 3, 2, 20, 10);
        club.callback(0, 30, 10);
        club.comedian(8, 0, 0, 0);
        club.comedian(65535 - 8, 0, 0, 0);
        club.give(0, 0);
        club.give(0, 1);
        club.give(1, 1);
        club.table(1, 0, 2, 0);
        club.table(1, 0, 1, 0);
        club.book(0, 0, 60);
        club.next();
        Check.is("without the seed", club.tell(1, 0), 0);
        Check.is("its premise is that of the seed", club.firstBy(8), 0);
        club.tell(0, 20);
        club.tell(1, 20);
        Check.is("who knows the seed's fact laughs", club.laughOf(0) > 0, true);
        Check.is("who does not know the seed's fact", club.laughOf(1), 0);
        club.end();
        Check.is("its subject is that of the seed", club.hadBy(3), 0);
        Check.fails("a persona without the seed's subject", Check.UNSUPPORTED, () -> {
            TightFive other = new TightFive();
            other.joke(8, 3, 2, 20, 10);
            other.callback(0, 30, 10);
            other.comedian(65535 - 8, 0, 0, 0);
            other.give(0, 1);
            other.book(0, 0, 60);
            other.next();
            return other;
        }, c -> c.tell(1, 0));
    }

    private static void tag() {
        TightFive club = new TightFive();
        club.joke(0, 0, 0, 10, 10);
        club.joke(0, 0, 0, 10, 10);
        Check.is("first tag", club.tag(0, 1, 5), 1);
        Check.is("second tag", club.tag(0, 50, 90), 2);
        Check.is("third tag", club.tag(0, 10, 10), 3);
        Check.is("a tag of another joke", club.tag(1, 10, 10), 1);
        Check.fails("tag of joke -1", Check.INDEX, Clubs::running, c -> c.tag(-1, 0, 0));
        Check.fails("tag of no joke", Check.INDEX, Clubs::running, c -> c.tag(3, 10, 10));
        Check.fails("strength 0", Check.ARGUMENT, Clubs::running, c -> c.tag(0, 0, 5));
        Check.fails("strength 51", Check.ARGUMENT, Clubs::running, c -> c.tag(0, 51, 5));
        Check.fails("4 seconds", Check.ARGUMENT, Clubs::running, c -> c.tag(0, 1, 4));
        Check.fails("91 seconds", Check.ARGUMENT, Clubs::running, c -> c.tag(0, 1, 91));
        Check.fails("tag 4", Check.STATE, Clubs::full, c -> c.tag(1, 10, 10));
        Check.fails("tag 4, out of range", Check.ARGUMENT, Clubs::full, c -> c.tag(1, 10, 4));
    }

    private static void rewrite() {
        TightFive club = Clubs.plain();
        for (int i = 0; i < 3; i++) {
            club.tag(0, 10, 10);
        }
        Check.is("rewrite to the greatest", club.rewrite(0, 50), 20);
        Check.is("rewrite to the least", club.rewrite(0, 1), 50);
        Check.is("rewrite", club.rewrite(0, 30), 1);
        // 30 moves the mood by 7; the tags of 10, which stay, then laugh by 11, 11 and 12.
        Check.is("told as rewritten", club.tell(0, 0), 30 + 11 + 11 + 12);
        Check.fails("rewrite joke -1", Check.INDEX, Clubs::running, c -> c.rewrite(-1, 0));
        Check.fails("rewrite no joke", Check.INDEX, Clubs::running, c -> c.rewrite(3, 10));
        Check.fails("strength 0", Check.ARGUMENT, Clubs::running, c -> c.rewrite(0, 0));
        Check.fails("strength 51", Check.ARGUMENT, Clubs::running, c -> c.rewrite(0, 51));
    }
}
