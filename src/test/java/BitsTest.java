import java.util.function.Supplier;

/** Facts and subjects as bits: each one by itself, the first and the last one too. */
public final class BitsTest {
    public static void main(String[] args) {
        knownFacts();
        mindedSubjects();
        allowedSubjects();
        hadSubjects();
        spoiledSubjects();
        Check.finish("BitsTest");
    }

    private static TightFive withJoke(int subject, int facts) {
        TightFive club = Clubs.solo(0, 0, 0);
        club.joke(0, subject, facts, 20, 10);
        club.give(0, 0);
        return club;
    }

    private static void knownFacts() {
        for (int fact = 0; fact < 8; fact++) {
            TightFive club = withJoke(0, 1 << fact);
            club.table(1, 0, 1 << fact, 0);
            club.table(1, 0, 255 - (1 << fact), 0);
            club.table(1, 0, 0, 0);
            club.table(1, 0, 255, 0);
            club.tell(0, 0);
            Check.is("knows just fact " + fact, club.laughOf(0), 20);
            Check.is("knows all but fact " + fact, club.laughOf(1), 0);
            Check.is("knows nothing", club.laughOf(2), 0);
            Check.is("knows all", club.laughOf(3), 20);
            TightFive all = withJoke(0, 255);
            all.table(1, 0, 255 - (1 << fact), 0);
            Check.is("all facts are needed, and " + fact + " is not known", all.tell(0, 0), 0);
            TightFive others = withJoke(0, 255 - (1 << fact));
            others.table(1, 0, 255 - (1 << fact), 0);
            Check.is("all facts but " + fact + " are needed and known", others.tell(0, 0), 20);
        }
        TightFive none = withJoke(0, 0);
        none.table(1, 0, 0, 0);
        Check.is("nothing is needed or known", none.tell(0, 0), 20);
    }

    private static void mindedSubjects() {
        for (int subject = 0; subject < 16; subject++) {
            TightFive club = withJoke(subject, 0);
            club.table(1, 0, 0, 1 << subject);
            club.table(1, 0, 0, 65535 - (1 << subject));
            club.table(1, 0, 0, 65535);
            club.table(1, 0, 0, 0);
            club.tell(0, 0);
            Check.is("minds just subject " + subject, club.laughOf(0), -20);
            Check.is("minds all but subject " + subject, club.laughOf(1), 20);
            Check.is("minds all", club.laughOf(2), -20);
            Check.is("minds nothing", club.laughOf(3), 20);
            Check.is("groans", club.groans(0), 2);
        }
    }

    /** One whose persona allows these subjects is on, with a joke of such a subject. */
    private static TightFive allowed(int subjects, int subject) {
        TightFive club = new TightFive();
        club.comedian(subjects, 0, 0, 0);
        club.joke(0, subject, 0, 20, 10);
        club.give(0, 0);
        club.table(1, 0, 0, 0);
        club.book(0, 0, 60);
        club.next();
        return club;
    }

    private static void allowedSubjects() {
        for (int i = 0; i < 16; i++) {
            int subject = i;
            int just = 1 << subject;
            Check.is("allows just subject " + i, allowed(just, i).tell(0, 0), 20);
            Check.is("allows all", allowed(65535, i).expect(0), 20);
            Check.is("a row of what it allows", allowed(just, i).best(10), 20);
            Check.is("no row of what it does not allow", allowed(65535 - just, i).best(10), 0);
            Supplier<TightFive> others = () -> allowed(65535 - just, subject);
            Check.fails("all but subject " + i, Check.UNSUPPORTED, others, c -> c.tell(0, 0));
            Check.fails("expects it", Check.UNSUPPORTED, others, c -> c.expect(0));
            Check.fails("allows none", Check.UNSUPPORTED, () -> allowed(0, subject), c -> c.tell(0, 20));
        }
    }

    private static void hadSubjects() {
        for (int i = 0; i < 16; i++) {
            int subject = i;
            Supplier<TightFive> running = () -> told(subject, false);
            Check.fails("not ahead of the end", Check.ELEMENT, running, c -> c.hadBy(subject));
            TightFive club = told(subject, true);
            Check.is("had", club.hadBy(subject), 0);
            int other = 15 - subject;
            Check.fails("only that one", Check.ELEMENT, () -> told(subject, true), c -> c.hadBy(other));
        }
        TightFive all = Clubs.solo(0, 0, 0);
        for (int subject = 0; subject < 16; subject++) {
            all.joke(0, subject, 0, 20, 10);
        }
        for (int i = 0; i < 6; i++) {
            all.give(0, 3 * i);
            all.tell(3 * i, 0);
        }
        all.end();
        for (int i = 0; i < 6; i++) {
            Check.is("one of 6 of a set", all.hadBy(3 * i), 0);
        }
    }

    private static TightFive told(int subject, boolean ended) {
        TightFive club = withJoke(subject, 0);
        club.tell(0, 0);
        if (ended) {
            club.end();
        }
        return club;
    }

    private static void spoiledSubjects() {
        for (int subject = 0; subject < 16; subject++) {
            TightFive club = withJoke(subject, 255);
            club.table(1, 0, 0, 0);
            club.tell(0, 0);
            club.comedian(65535, 0, 0, 0);
            club.joke(1, subject, 0, 31, 10);
            club.joke(2, 15 - subject, 0, 31, 10);
            club.give(1, 1);
            club.give(1, 2);
            Clubs.change(club, 1);
            // The mood is -5, of which a fifth is -1.
            Check.is("two thirds of subject " + subject, club.expect(1), 20);
            Check.is("all of subject " + (15 - subject), club.expect(2), 30);
        }
    }
}
