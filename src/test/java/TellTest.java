/** Promises 15 to 17, 19 and 23: tell, laughOf, seconds, end, expect; parts and moods. */
public final class TellTest {
    public static void main(String[] args) {
        energy();
        mood();
        drinksAndDistance();
        nerves();
        nervesOfTags();
        steps();
        stepsBehindTags();
        stepsByHeads();
        callbackParts();
        seeds();
        halved();
        spoiled();
        ends();
        facts();
        minded();
        tags();
        wrongTells();
        laughOf();
        expect();
        secondsAndEnd();
        Check.finish("TellTest");
    }

    /** So many jokes of a strength and 10 seconds, with unlike subjects, for one who is on. */
    private static TightFive solo(int many, int strength, int energy, int nerves) {
        TightFive club = new TightFive();
        club.comedian(65535, energy, nerves, 0);
        for (int i = 0; i < many; i++) {
            club.joke(i, i, 0, strength, 10);
            club.give(0, i);
        }
        club.book(0, 0, 600);
        club.next();
        return club;
    }

    private static TightFive soloWithTable(int many, int strength, int energy, int nerves) {
        TightFive club = solo(many, strength, energy, nerves);
        club.table(1, 0, 0, 0);
        return club;
    }

    private static void energy() {
        TightFive club = soloWithTable(4, 20, 49, 0);
        Check.is("energy 49, mood 0", club.tell(0, 0), 24);
        Check.is("energy 44, mood 6", club.tell(1, 20), 25);
        Check.is("energy 39, mood 12", club.tell(2, 20), 25);
        club.end();
        club.book(0, 0, 60);
        club.next();
        Check.is("energy 49 again, not 34, mood 18", club.tell(3, 0), 20 + 4 + 3);
        Check.is("energy 44, mood 24, halved", club.tell(0, 20), (20 + 4 + 4) / 2);
        TightFive even = soloWithTable(2, 1, 15, 0);
        even.tell(0, 0);
        Check.is("energy 10", even.tell(1, 0), 1 + 1);
        TightFive tired = soloWithTable(4, 1, 4, 0);
        for (int i = 0; i < 4; i++) {
            Check.is("energy stays at 0", tired.tell(i, 0), 1);
        }
    }

    private static void mood() {
        TightFive club = solo(2, 50, 0, 0);
        club.table(1, 0, 0, 1);
        club.rewrite(1, 20);
        Check.is("minded", club.tell(0, 0), -50);
        Check.is("12 less, then 5", club.mood(0), -17);
        Check.is("a fifth of -17", club.tell(1, 0), 17);
        Check.is("a fourth of 17 more", club.mood(0), -13);
    }

    private static void drinksAndDistance() {
        TightFive club = soloWithTable(1, 20, 0, 0);
        club.drink(0, 6);
        Check.is("6 drinks", club.expect(0), 32);
        club.drink(0, 1);
        Check.is("7 drinks", club.expect(0), 28);
        club.drink(0, 2);
        Check.is("9 drinks", club.expect(0), 20);
        TightFive far = solo(1, 20, 0, 0);
        far.table(1, 9, 0, 0);
        Check.is("distance 9", far.tell(0, 0), 2);
    }

    private static void nerves() {
        TightFive club = soloWithTable(3, 20, 0, 5);
        for (int i = 0; i < 3; i++) {
            Check.is("nervous at first", club.expect(i), 15);
        }
        club.tell(0, 20);
        club.tell(1, 19);
        Check.is("59 seconds", club.seconds(), 59);
        Check.is("nervous, whatever the wait", club.tell(2, 20), 15 + 1);
        TightFive calm = soloWithTable(3, 20, 0, 5);
        calm.tell(0, 20);
        calm.tell(1, 20);
        Check.is("60 seconds", calm.seconds(), 60);
        Check.is("no longer nervous", calm.tell(2, 20), 20 + 1);
    }

    private static void nervesOfTags() {
        TightFive club = soloWithTable(3, 20, 0, 5);
        club.tag(2, 10, 5);
        club.tell(0, 20);
        club.tell(1, 19);
        // The moods are 3, then 6, 10 and so on: the tag begins at 89 seconds, but the joke at 59.
        Check.is("the tag is nervous as the joke", club.tell(2, 20), (15 + 1) + (10 - 5 + 2));
    }

    private static void steps() {
        TightFive club = soloWithTable(3, 20, 0, 0);
        club.tag(1, 10, 10);
        Check.is("the first one steps on nothing", club.tell(0, 0), 20);
        Check.is("waited 1 of 2: the joke steps, the tag does not", club.tell(1, 1), 11 + 11);
        TightFive patient = soloWithTable(3, 20, 0, 0);
        patient.tell(0, 0);
        Check.is("waited 2 of 2", patient.tell(1, 2), 21);
        patient.end();
        patient.book(0, 0, 60);
        patient.next();
        Check.is("the first one of a set steps on nothing", patient.tell(2, 0), 22);
        TightFive cut = soloWithTable(2, 19, 0, 0);
        cut.tell(0, 0);
        Check.is("a tenth of 19 is 1", cut.tell(1, 1), 19);
        TightFive bad = solo(2, 20, 0, 0);
        bad.table(1, 0, 0, 1);
        bad.tell(0, 0);
        Check.is("a laugh below 0 needs no wait", bad.tell(1, 0), 20 - 2);
    }

    private static void stepsBehindTags() {
        TightFive club = soloWithTable(2, 5, 0, 0);
        club.tag(0, 30, 5);
        club.tell(0, 0);
        Check.is("mood", club.mood(0), 8);
        Check.is("waited 2 of the 3 for the tag", club.tell(1, 2), 5 + 1 - 10);
        TightFive quiet = soloWithTable(2, 40, 0, 0);
        quiet.tag(0, 1, 5);
        quiet.tell(0, 0);
        Check.is("the tag of 3 needs no wait", quiet.tell(1, 0), 40 + 2);
    }

    private static void stepsByHeads() {
        TightFive club = solo(2, 20, 0, 0);
        club.table(12, 0, 0, 0);
        Check.is("20 of each head", club.tell(0, 0), 240);
        Check.is("240 by 120 is 2", club.tell(1, 1), 12 * 11);
        TightFive grown = soloWithTable(2, 20, 0, 0);
        grown.tell(0, 0);
        grown.table(1, 9, 255, 65535);
        Check.is("20 by the 20 of the room now is 1", grown.tell(1, 1), 21 - 20);
    }

    private static void callbackParts() {
        TightFive club = soloWithTable(1, 20, 0, 0);
        club.callback(0, 30, 10);
        club.tag(1, 10, 10);
        club.give(0, 1);
        club.tell(0, 0);
        Check.is("10 more for the callback and its tag", club.tell(1, 20), (30 + 1 + 10) + (10 + 3 + 10));
    }

    private static void seeds() {
        TightFive club = soloWithTable(1, 20, 0, 0);
        club.callback(0, 30, 10);
        club.tag(1, 30, 10);
        club.callback(1, 20, 10);
        club.give(0, 1);
        club.give(0, 2);
        Check.is("nobody told the seed", club.tell(1, 0), 0);
        Check.is("its tag was not told", club.seconds(), 10);
        Check.is("nobody laughed", club.mood(0), -5);
        Check.is("a seed that nobody laughed at", club.tell(2, 0), 20 - 1 + 10);
        club.end();
        club.close();
        club.book(0, 0, 60);
        club.next();
        Check.is("the seed was told in another night", club.tell(2, 0), 0);
        TightFive other = soloWithTable(1, 20, 0, 0);
        other.callback(0, 30, 10);
        other.comedian(65535, 0, 0, 0);
        other.give(1, 1);
        other.tell(0, 0);
        other.end();
        other.book(1, 0, 60);
        other.next();
        Check.is("another one told the seed", other.tell(1, 0), (30 + 1 + 10) * 2 / 3);
    }

    private static void halved() {
        TightFive club = soloWithTable(1, 20, 0, 0);
        club.tag(0, 31, 10);
        Check.is("told first", club.tell(0, 0), 20 + 32);
        // The mood is 13: 22 is halved, then it is 15: 34 is halved.
        Check.is("told again, the tag as well", club.tell(0, 20), 11 + 17);
        TightFive far = solo(1, 4, 0, 0);
        far.table(1, 9, 0, 0);
        Check.is("below 0", far.tell(0, 0), -14);
        Check.is("mood", far.mood(0), -8);
        Check.is("-15 is halved toward 0", far.tell(0, 0), -7);
        far.end();
        far.close();
        far.book(0, 0, 60);
        far.next();
        Check.is("not halved in another night", far.tell(0, 0), 4 - 18 - 1);
    }

    /** Two comedians with two jokes of a subject and one of another; the first one told joke 0. */
    private static TightFive afterFirst(int distance) {
        TightFive club = new TightFive();
        club.joke(0, 0, 0, 20, 10);
        club.joke(1, 0, 0, 20, 10);
        club.joke(2, 1, 0, 20, 10);
        club.table(1, distance, 0, 0);
        for (int who = 0; who < 2; who++) {
            club.comedian(65535, 0, 0, 0);
            for (int joke = 0; joke < 3; joke++) {
                club.give(who, joke);
            }
        }
        club.book(0, 0, 60);
        club.next();
        club.tell(0, 0);
        Check.is("not spoiled in the same set", club.expect(1), club.expect(2));
        club.end();
        return club;
    }

    private static void spoiled() {
        TightFive club = afterFirst(0);
        club.book(1, 0, 60);
        club.next();
        Check.is("two thirds of 21", club.expect(1), 14);
        Check.is("half of 21, then two thirds", club.expect(0), 6);
        Check.is("another subject", club.expect(2), 21);
        club.tell(1, 0);
        club.end();
        club.book(0, 0, 60);
        club.next();
        Check.is("who had it first is not spoiled", club.expect(1), (20 + 1) / 2);
        club.end();
        club.close();
        club.book(1, 0, 60);
        club.next();
        Check.is("had in another night", club.expect(1), 20);
        TightFive far = afterFirst(9);
        far.book(1, 0, 60);
        far.next();
        far.rewrite(1, 4);
        // 2 of the first joke left the mood at 0.
        Check.is("two thirds of -14 toward 0", far.expect(1), -9);
    }

    private static void ends() {
        TightFive club = soloWithTable(1, 20, 0, 0);
        for (int i = 0; i < 11; i++) {
            club.drink(0, 9);
        }
        Check.is("-50 at least", club.tell(0, 0), -50);
        Check.is("halved ahead of that", club.tell(0, 0), -50);
        TightFive great = new TightFive();
        great.comedian(65535, 100, 0, 100);
        great.joke(0, 0, 0, 40, 5);
        great.callback(0, 50, 5);
        great.give(0, 0);
        great.give(0, 1);
        great.table(1, 0, 0, 0);
        great.book(0, 0, 600);
        great.next();
        Check.is("with energy 100", great.tell(0, 0), 50);
        great.drink(0, 6);
        for (int i = 0; i < 11; i++) {
            great.heckle(0, 'l');
            great.answer('j');
        }
        Check.is("mood 100 at most", great.mood(0), 100);
        Check.is("50, 9, 20, 12 and 10 are 101: 99 at most", great.tell(1, 20), 99);
    }

    private static void facts() {
        TightFive club = new TightFive();
        club.joke(0, 0, 131, 20, 10);
        club.comedian(65535, 0, 0, 0);
        club.give(0, 0);
        club.table(1, 0, 131, 0);
        club.table(1, 0, 255, 0);
        club.table(1, 0, 130, 0);
        club.table(1, 0, 124, 1);
        club.book(0, 0, 60);
        club.next();
        club.tell(0, 0);
        Check.is("knows just the facts", club.laughOf(0), 20);
        Check.is("knows more", club.laughOf(1), 20);
        Check.is("lacks one", club.laughOf(2), 0);
        Check.is("lacks all, and minds the subject", club.laughOf(3), 0);
        Check.is("who does not know does not groan", club.groans(0), 0);
    }

    private static void minded() {
        TightFive club = soloWithTable(1, 20, 100, 10);
        club.tag(0, 7, 5);
        club.callback(0, 9, 5);
        club.give(0, 1);
        club.table(2, 3, 0, 1);
        club.drink(1, 6);
        Check.is("a callback without its seed is not minded", club.tell(1, 0), 0);
        Check.is("and no groan", club.groans(0), 0);
        club.end();
        club.close();
        club.rewrite(0, 50);
        club.book(0, 0, 600);
        club.next();
        club.table(12, 0, 0, 0);
        club.tell(0, 0);
        Check.is("by as much below 0 as the tag's strength", club.laughOf(1), -7);
        Check.is("the groans of the joke and its tag", club.groans(0), 2);
        club.tell(1, 20);
        Check.is("a callback's is not 10 more", club.laughOf(1), -9);
        club.tell(1, 0);
        Check.is("told again it is not halved", club.laughOf(1), -9);
    }

    private static void tags() {
        TightFive club = solo(1, 20, 0, 0);
        club.table(3, 1, 0, 0);
        club.tag(0, 2, 5);
        club.tag(0, 50, 7);
        Check.is("3 heads by 18, then by 0", club.tell(0, 4), 54);
        Check.is("the last part", club.laughOf(0), 0);
        Check.is("the second tag is not told", club.seconds(), 4 + 10 + 5);
        Check.is("4 more by the joke, 5 less by the tag", club.mood(0), -1);
        TightFive quiet = soloWithTable(1, 1, 0, 0);
        quiet.tag(0, 2, 5);
        Check.is("a laugh of 1 is above 0", quiet.tell(0, 0), 1 + 2);
        TightFive three = soloWithTable(1, 20, 0, 0);
        three.tag(0, 10, 5);
        three.tag(0, 10, 6);
        three.tag(0, 10, 7);
        Check.is("all tags", three.tell(0, 0), 20 + 11 + 11 + 11);
        Check.is("seconds of all", three.seconds(), 28);
    }

    private static TightFive persona() {
        TightFive club = Clubs.open();
        club.book(1, 0, 60);
        club.next();
        return club;
    }

    private static void wrongTells() {
        Check.fails("joke -1", Check.INDEX, Clubs::running, c -> c.tell(-1, -1));
        Check.fails("no joke", Check.INDEX, Clubs::running, c -> c.tell(3, 0));
        Check.fails("no joke, nobody on", Check.INDEX, Clubs::booked, c -> c.tell(3, 0));
        Check.fails("wait -1", Check.ARGUMENT, Clubs::running, c -> c.tell(0, -1));
        Check.fails("wait 21", Check.ARGUMENT, Clubs::running, c -> c.tell(0, 21));
        Check.fails("wait 21, nobody on", Check.ARGUMENT, Clubs::booked, c -> c.tell(0, 21));
        Check.fails("nobody on", Check.STATE, Clubs::booked, c -> c.tell(0, 20));
        Check.fails("a joke they have not", Check.UNSUPPORTED, TellTest::persona, c -> c.tell(2, 0));
        Check.fails("a subject not allowed", Check.UNSUPPORTED, TellTest::persona, c -> c.tell(1, 0));
    }

    private static void laughOf() {
        TightFive club = Clubs.running();
        club.table(1, 0, 0, 0);
        Check.is("of the tag", club.laughOf(0), 6);
        Check.fails("table -1", Check.INDEX, Clubs::running, c -> c.laughOf(-1));
        Check.fails("no table", Check.INDEX, Clubs::running, c -> c.laughOf(2));
        Check.fails("a table that came later", Check.ELEMENT, () -> {
            TightFive later = Clubs.running();
            later.table(1, 0, 0, 0);
            return later;
        }, c -> c.laughOf(2));
        Check.fails("nothing told", Check.ELEMENT, Clubs::booked, c -> c.laughOf(0));
        Check.fails("told in another night", Check.ELEMENT, () -> {
            TightFive closed = Clubs.running();
            closed.end();
            closed.close();
            return closed;
        }, c -> c.laughOf(0));
        club.end();
        Check.is("behind the set", club.laughOf(1), 2);
        TightFive again = Clubs.running();
        again.table(1, 0, 1, 0);
        again.tell(1, 20);
        Check.is("a table that came ahead of the last part", again.laughOf(2) > 0, true);
    }

    private static void expect() {
        TightFive club = soloWithTable(2, 20, 0, 0);
        club.tell(0, 0);
        Check.is("without stepping on a laugh", club.expect(1), 21);
        Check.is("as if told again", club.expect(0), 10);
        club.tag(1, 10, 5);
        Check.is("with its tag", club.expect(1), 21 + 12);
        Check.is("what is told then", club.tell(1, 20), 33);
        Check.is("nothing changes", askedAll().equals(Check.stateOf(Clubs.heckled())), true);
        Check.fails("joke -1", Check.INDEX, Clubs::booked, c -> c.expect(-1));
        Check.fails("no joke", Check.INDEX, Clubs::running, c -> c.expect(3));
        Check.fails("nobody on", Check.STATE, Clubs::booked, c -> c.expect(0));
        Check.fails("a joke they have not", Check.UNSUPPORTED, TellTest::persona, c -> c.expect(2));
        Check.fails("a subject not allowed", Check.UNSUPPORTED, TellTest::persona, c -> c.expect(1));
    }

    /** The state of the heckled club behind calls that only ask. */
    private static String askedAll() {
        TightFive club = Clubs.heckled();
        club.expect(0);
        club.expect(1);
        club.expect(2);
        club.best(600);
        club.bestAt(600, 0);
        club.isTrue();
        return Check.stateOf(club);
    }

    private static void secondsAndEnd() {
        TightFive club = soloWithTable(2, 20, 0, 0);
        Check.is("none at first", club.seconds(), 0);
        club.tell(0, 3);
        Check.is("the wait and the joke", club.seconds(), 13);
        club.tell(1, 20);
        Check.is("of both jokes", club.seconds(), 43);
        Check.is("the sum of the set", club.end(), 41);
        Check.fails("seconds of nobody", Check.STATE, Clubs::booked, TightFive::seconds);
        Check.fails("the end of nobody", Check.STATE, Clubs::booked, TightFive::end);
        TightFive empty = solo(1, 20, 0, 0);
        Check.is("without tables nobody laughs", empty.tell(0, 0), 0);
        Check.is("so the second one needs no wait", empty.tell(0, 0), 0);
        Check.is("the sum of it", empty.end(), 0);
    }
}
