/**
 * Each quotient of the document that is cut, on both sides of 0 where it can be below 0. What is due
 * is reckoned by Model.cut, which never divides a number below 0.
 */
public final class CutsTest {
    public static void main(String[] args) {
        tenthOfEnergy();
        fifthOfMood();
        halfOfLaugh();
        twoThirdsOfLaugh();
        halfAheadOfTwoThirds();
        fourthOfLaugh();
        fourthOfGroan();
        fourthOfDifference();
        meanOfNeighbours();
        halfOfMood();
        quotientOfStep();
        shareOfDoor();
        shareOfSeconds();
        Check.finish("CutsTest");
    }

    private static void tenthOfEnergy() {
        for (int energy : new int[] {0, 1, 9, 10, 11, 19, 20, 89, 90, 99, 100}) {
            TightFive club = Clubs.solo(energy, 0, 0);
            club.table(1, 0, 0, 0);
            Check.is("energy " + energy, club.expect(Clubs.own(club, 0, 20)), 20 + Model.cut(energy, 10));
        }
    }

    private static void fifthOfMood() {
        int[] moods = {-100, -99, -96, -95, -11, -10, -9, -6, -5, -4, -3, -2, -1, 0, 1, 2, 3, 4, 5, 6,
            9, 10, 11, 94, 95, 96, 99, 100};
        for (int mood : moods) {
            TightFive club = Clubs.solo(0, 0, 30);
            club.table(1, 0, 0, 0);
            int joke = Clubs.own(club, 0, 30);
            Clubs.bringTo(club, mood, Clubs.silent(club));
            Check.is("mood " + mood, club.expect(joke), 30 + Model.cut(mood, 5));
        }
    }

    /** Who is on has joke 0, at which the only table, which is far, laughs so when its mood is 0. */
    private static TightFive far(int laugh) {
        TightFive club = Clubs.solo(0, 0, 30);
        club.table(1, 9, 0, 0);
        Clubs.own(club, 0, laugh + 18);
        Check.is("a laugh of " + laugh, club.expect(0), laugh);
        return club;
    }

    // A mood of -4 to 4 is nothing in a laugh; what a laugh of 0 or less does to it is mended.
    private static void mendMood(TightFive club) {
        if (club.mood(0) < -4) {
            Clubs.cheer(club);
        }
        Check.is("a mood near 0", Math.abs(club.mood(0)) <= 4, true);
    }

    private static void halfOfLaugh() {
        for (int laugh = -9; laugh <= 9; laugh++) {
            TightFive club = far(laugh);
            club.tell(0, 0);
            mendMood(club);
            Check.is("half of " + laugh, club.expect(0), Model.cut(laugh, 2));
        }
    }

    /** Comedian 1, who has joke 0 too, is on behind one who told another joke of its subject. */
    private static TightFive spoiled(int laugh) {
        TightFive club = far(laugh);
        club.give(0, club.joke(0, 0, 255, 1, 5));
        club.comedian(65535, 0, 0, 30);
        club.give(1, 0);
        club.tell(1, 0);
        Clubs.change(club, 1);
        mendMood(club);
        return club;
    }

    private static void twoThirdsOfLaugh() {
        for (int laugh = -10; laugh <= 10; laugh++) {
            Check.is("two thirds of " + laugh, spoiled(laugh).expect(0), Model.cut(2 * laugh, 3));
        }
    }

    private static void halfAheadOfTwoThirds() {
        for (int laugh = -10; laugh <= 10; laugh++) {
            TightFive club = spoiled(laugh);
            club.tell(0, 20);
            mendMood(club);
            int half = Model.cut(laugh, 2);
            Check.is("two thirds of half of " + laugh, club.expect(0), Model.cut(2 * half, 3));
        }
    }

    private static void fourthOfLaugh() {
        for (int laugh = -17; laugh <= 32; laugh++) {
            TightFive club = far(laugh);
            club.tell(0, 0);
            int due = Model.cut(laugh, 4) - (laugh <= 0 ? 5 : 0);
            Check.is("a fourth of " + laugh, club.mood(0), due);
        }
    }

    private static void fourthOfGroan() {
        for (int strength = 1; strength <= 50; strength++) {
            TightFive club = Clubs.solo(0, 0, 0);
            club.table(1, 0, 0, 1);
            club.tell(Clubs.own(club, 0, strength), 0);
            Check.is("a groan of " + strength, club.mood(0), Model.cut(-strength, 4) - 5);
        }
    }

    private static void fourthOfDifference() {
        for (int strength = 1; strength <= 50; strength++) {
            int change = Model.cut(strength, 4);
            TightFive club = Clubs.solo(0, 0, 0);
            club.table(1, 0, 1, 0);
            club.table(1, 0, 0, 0);
            club.joke(0, 0, 1, strength, 10);
            club.give(0, 0);
            club.tell(0, 0);
            Check.is("goes down", club.mood(0), change + Model.cut(0 - change, 4));
            Check.is("goes up", club.mood(1), Model.cut(change, 4));
            TightFive bad = Clubs.solo(0, 0, 0);
            bad.table(1, 0, 1, 1);
            bad.table(1, 0, 0, 0);
            bad.joke(0, 0, 1, strength, 10);
            bad.give(0, 0);
            bad.tell(0, 0);
            Check.is("goes up from below 0", bad.mood(0), -change - 5 + Model.cut(change, 4));
            Check.is("goes down below 0", bad.mood(1), -5 + Model.cut(-change, 4));
        }
    }

    /** The mood of the table between two that laugh at a joke of 16 which it does not know. */
    private static int between(int strength, int distance, int drinks, int minds) {
        TightFive club = Clubs.solo(0, 0, 0);
        club.table(1, 0, 1, minds);
        club.table(1, 0, 0, 0);
        club.table(1, distance, 1, 0);
        for (int i = 0; i < drinks; i++) {
            club.drink(2, 1);
        }
        club.joke(0, 0, 1, strength, 10);
        club.give(0, 0);
        club.tell(0, 0);
        return club.mood(1);
    }

    private static void meanOfNeighbours() {
        Check.is("4 and 3: a mean of 3", between(16, 2, 0, 0), 0);
        Check.is("4 and 4: a mean of 4", between(16, 0, 0, 0), 1);
        // By 12 drinks 12 - 24; behind the laughs all are less by 5.
        Check.is("-4 and -3: a mean of -3, not -4", between(16, 9, 12, 1), -5 - 0);
        Check.is("-4 and -4: a mean of -4", between(16, 9, 13, 1), -5 - 1);
        Check.is("-1 and 0: a mean of 0", between(4, 2, 0, 1), -5);
    }

    private static void halfOfMood() {
        int[] moods = {-100, -99, -51, -7, -6, -5, -3, -2, -1, 0, 1, 2, 3, 5, 6, 7, 51, 99, 100};
        for (int mood : moods) {
            TightFive club = Clubs.solo(0, 0, 30);
            club.table(1, 0, 0, 0);
            Clubs.bringTo(club, mood, Clubs.silent(club));
            club.end();
            club.close();
            Check.is("half of a mood of " + mood, club.mood(0), Model.cut(mood, 2));
        }
    }

    private static int secondLaugh(int first, int wait) {
        TightFive club = Clubs.solo(0, 0, 0);
        club.table(1, 0, 0, 0);
        int joke = Clubs.own(club, 0, first);
        int other = Clubs.own(club, 1, 30);
        club.tell(joke, 0);
        int ofMood = Model.cut(club.mood(0), 5);
        return club.tell(other, wait) - ofMood;
    }

    private static void quotientOfStep() {
        for (int laugh : new int[] {1, 9, 10, 11, 19, 20, 21, 29, 30, 39, 40, 49, 50}) {
            int due = Model.cut(laugh, 10);
            Check.is("waited " + due + " for " + laugh, secondLaugh(laugh, due), 30);
            if (due > 0) {
                Check.is("waited too short for " + laugh, secondLaugh(laugh, due - 1), 20);
            }
        }
    }

    private static long gotOf(int cents, int share) {
        TightFive club = Clubs.plain();
        club.price(cents, share);
        club.tell(0, 0);
        club.end();
        club.close();
        Check.is("the club keeps the rest", club.isTrue(), true);
        return club.got(0);
    }

    private static void shareOfDoor() {
        Check.is("a hundredth of 99", gotOf(99, 1), 0L);
        Check.is("a hundredth of 100", gotOf(100, 1), 1L);
        Check.is("a hundredth of 199", gotOf(199, 1), 1L);
        Check.is("99 hundredths of 1", gotOf(1, 99), 0L);
        Check.is("99 hundredths of 101", gotOf(101, 99), 99L);
        Check.is("all of 1", gotOf(1, 100), 1L);
        Check.is("none of 9999", gotOf(9999, 0), 0L);
        Check.is("a half of 9999", gotOf(9999, 50), 4999L);
        Check.is("all of 9999", gotOf(9999, 100), 9999L);
        Check.is("all of 0", gotOf(0, 100), 0L);
    }

    /** A night of a whole door for comedian 0, of 10 seconds, and comedian 1, of 20. */
    private static TightFive shared(int cents) {
        TightFive club = Clubs.plain();
        club.comedian(65535, 0, 0, 0);
        club.give(1, 0);
        club.price(cents, 100);
        club.tell(0, 0);
        Clubs.change(club, 1);
        club.tell(0, 10);
        club.end();
        club.close();
        Check.is("the club keeps the rest", club.isTrue(), true);
        return club;
    }

    private static void shareOfSeconds() {
        Check.is("a third of 1", shared(1).got(0), 0L);
        Check.is("two thirds of 1", shared(1).got(1), 0L);
        Check.is("a third of 2", shared(2).got(0), 0L);
        Check.is("two thirds of 2", shared(2).got(1), 1L);
        Check.is("a third of 3", shared(3).got(0), 1L);
        Check.is("two thirds of 3", shared(3).got(1), 2L);
        Check.is("a third of 5", shared(5).got(0), 1L);
        Check.is("two thirds of 5", shared(5).got(1), 3L);
    }
}
