/** Each number that is held at an end: just ahead of it, at it, and where it would go beyond. */
public final class EndsTest {
    public static void main(String[] args) {
        greatestLaugh();
        greatestLaughIsHalvedAhead();
        leastLaugh();
        leastLaughIsHalvedAhead();
        greatestMoodByLaugh();
        greatestMoodByAnswer();
        greatestMoodAheadOfLess();
        leastMoodByLaugh();
        leastMoodBySilence();
        leastMoodByAnswer();
        leastMoodByDoorman();
        moodsStayAtEnds();
        energy();
        drinks();
        level();
        longestWait();
        Check.finish("EndsTest");
    }

    /** One with an energy of 100 at a mood of 100, a table of 6 drinks, and the seed told: 102 at 50. */
    private static TightFive greatest() {
        TightFive club = Clubs.solo(100, 0, 30);
        club.table(1, 0, 0, 0);
        int seed = Clubs.own(club, 0, 50);
        club.give(0, club.callback(seed, 50, 10));
        club.tell(seed, 0);
        Clubs.change(club, 0);
        for (int i = 0; i < 12; i++) {
            Clubs.cheer(club);
        }
        club.drink(0, 6);
        Check.is("the greatest mood", club.mood(0), 100);
        return club;
    }

    private static void greatestLaugh() {
        TightFive club = greatest();
        int[] due = {97, 98, 99, 99, 99, 99};
        for (int i = 0; i < due.length; i++) {
            club.rewrite(1, 45 + i);
            Check.is("a laugh of " + (97 + i), club.expect(1), due[i]);
        }
        Check.is("told", club.tell(1, 20), 99);
        Check.is("how the table laughed", club.laughOf(0), 99);
        TightFive heads = greatest();
        heads.table(12, 0, 255, 0);
        // It is each table's laugh that is held, not their sum.
        Check.is("99 of one, and 50, 10, 10 of 12 more", heads.expect(1), 99 + 12 * 70);
    }

    private static void greatestLaughIsHalvedAhead() {
        TightFive club = greatest();
        club.tell(1, 20);
        Clubs.change(club, 0);
        Check.is("half of 102, not of 99", club.expect(1), 51);
    }

    /** The laugh at a joke of such a strength at a table of so many drinks. */
    private static TightFive drunk(int strength, int drinks) {
        TightFive club = Clubs.solo(0, 0, 30);
        club.table(1, 0, 0, 0);
        Clubs.own(club, 0, strength);
        for (int left = drinks; left > 0; left -= 9) {
            club.drink(0, Math.min(9, left));
        }
        return club;
    }

    private static void leastLaugh() {
        // 22 drinks are 12 - 64.
        Check.is("-48", drunk(4, 22).expect(0), -48);
        Check.is("-49", drunk(3, 22).expect(0), -49);
        Check.is("-50", drunk(2, 22).expect(0), -50);
        Check.is("-51", drunk(1, 22).expect(0), -50);
        Check.is("99 drinks", drunk(50, 99).expect(0), -50);
        TightFive told = drunk(1, 22);
        Check.is("told", told.tell(0, 0), -50);
        Check.is("a fourth of -50", told.mood(0), -12 - 5);
        TightFive groan = Clubs.solo(0, 30, 0);
        groan.table(1, 9, 0, 1);
        Check.is("the greatest groan", groan.expect(Clubs.own(groan, 0, 50)), -50);
        TightFive two = drunk(1, 22);
        two.table(2, 0, 0, 1);
        Check.is("the sum is not held", two.expect(0), -50 - 2);
    }

    private static void leastLaughIsHalvedAhead() {
        // The drinks alone are 12 - 4 * 44; the mood is less by 17 behind the first telling.
        TightFive club = drunk(50, 50);
        club.tell(0, 0);
        Check.is("half of -117 is held, not half of -50", club.expect(0), -50);
        TightFive less = drunk(50, 40);
        less.tell(0, 0);
        // 50, then 12 - 4 * 34, then a fifth of -17.
        Check.is("half of -77", less.expect(0), -38);
    }

    /** One with a joke of 40 before a table at such a mood. */
    private static TightFive at(int mood) {
        TightFive club = Clubs.solo(0, 0, 30);
        club.table(2, 0, 0, 0);
        Clubs.own(club, 0, 40);
        Clubs.bringTo(club, mood, Clubs.silent(club));
        return club;
    }

    private static void greatestMoodByLaugh() {
        int[] moods = {83, 84, 85, 86, 87, 100};
        for (int mood : moods) {
            TightFive club = at(mood);
            int laugh = club.tell(0, 20) / 2;
            Check.is("a laugh at a mood of " + mood, laugh, 40 + mood / 5);
            int due = Math.min(100, mood + laugh / 4);
            Check.is("a mood of " + mood + " and a fourth of it", club.mood(0), due);
        }
    }

    private static void greatestMoodByAnswer() {
        int[] moods = {91, 92, 93, 99, 100};
        int[] due = {99, 100, 100, 100, 100};
        for (int i = 0; i < moods.length; i++) {
            TightFive club = at(moods[i]);
            Clubs.cheer(club);
            Check.is(moods[i] + " and 8 more", club.mood(0), due[i]);
        }
    }

    private static void greatestMoodAheadOfLess() {
        // At a mood of 100 the near table laughs by 60, and the far one of 12 heads groans: 95 of 100.
        TightFive club = at(100);
        club.table(12, 0, 0, 1);
        club.tell(0, 20);
        // The mood of 115 is 100, then 95; it goes to the other table's of -10 - 5.
        Check.is("held ahead of 5 less", club.mood(0), 95 + Model.cut(-15 - 95, 4));
        Check.is("of the other one", club.mood(1), -15 + Model.cut(95 + 15, 4));
    }

    private static void leastMoodByLaugh() {
        for (int mood : new int[] {-84, -85, -86, -92, -100}) {
            TightFive club = minded(mood);
            club.tell(0, 20);
            Check.is("a groan of 40 at " + mood, club.mood(0), Math.max(-100, mood - 10 - 5));
        }
    }

    /** One with a joke of 40 before a table at such a mood that minds it. */
    private static TightFive minded(int mood) {
        TightFive club = Clubs.solo(0, 0, 30);
        club.table(2, 0, 0, 1);
        Clubs.own(club, 0, 40);
        Clubs.bringTo(club, mood, Clubs.silent(club));
        return club;
    }

    private static void leastMoodBySilence() {
        int[] moods = {-94, -95, -96, -99, -100};
        int[] due = {-99, -100, -100, -100, -100};
        for (int i = 0; i < moods.length; i++) {
            TightFive club = at(moods[i]);
            club.tell(1, 20);
            Check.is(moods[i] + " and 5 less", club.mood(0), due[i]);
        }
        // The one held at -100 is what the neighbour goes to.
        TightFive two = minded(-96);
        two.table(1, 0, 0, 0);
        two.tell(0, 20);
        // A groan of 40 and 5 less; the new table, that laughs by 40, is at 10, then at 5.
        Check.is("held ahead of the going", two.mood(0), -100 + Model.cut(5 + 100, 4));
        Check.is("goes to -100", two.mood(1), 5 + Model.cut(-100 - 5, 4));
    }

    private static void leastMoodByAnswer() {
        int[] moods = {-93, -94, -95, -100};
        int[] due = {-99, -100, -100, -100};
        for (int i = 0; i < moods.length; i++) {
            TightFive club = at(moods[i]);
            Clubs.dampen(club);
            Check.is(moods[i] + " and 6 less", club.mood(0), due[i]);
        }
    }

    private static void leastMoodByDoorman() {
        int[] moods = {-79, -80, -81, -99, -100, 100};
        int[] due = {-99, -100, -100, -100, -100, 80};
        for (int i = 0; i < moods.length; i++) {
            TightFive club = at(moods[i]);
            club.heckle(0, 'd');
            club.answer('d');
            Check.is(moods[i] + " and 20 less", club.mood(0), due[i]);
        }
    }

    private static void moodsStayAtEnds() {
        TightFive high = at(100);
        for (int i = 0; i < 3; i++) {
            high.tell(0, 20);
            Check.is("stays at 100", high.mood(0), 100);
            Check.is("true at 100", high.isTrue(), true);
        }
        TightFive low = at(-100);
        for (int i = 0; i < 3; i++) {
            low.tell(1, 20);
            Check.is("stays at -100", low.mood(0), -100);
            Check.is("true at -100", low.isTrue(), true);
        }
        Check.is("the mean of one at -100", low.meanMood(), -100.0);
        Clubs.cheer(low);
        Check.is("8 more than -100", low.mood(0), -92);
        Clubs.dampen(high);
        Check.is("6 less than 100", high.mood(0), 94);
    }

    private static void energy() {
        for (int energy : new int[] {4, 5, 6, 10, 15}) {
            TightFive club = Clubs.solo(energy, 0, 0);
            // It does not know what is told ahead, so that its mood alone changes.
            club.table(1, 0, 0, 0);
            int joke = Clubs.own(club, 0, 40);
            int silent = Clubs.silent(club);
            for (int told = 0; told < 30; told++) {
                int due = 40 + Math.max(0, energy - 5 * told) / 10 + Model.cut(club.mood(0), 5);
                Check.is("energy " + energy + " behind " + told, club.expect(joke), due);
                club.tell(silent, 0);
            }
        }
        TightFive begins = Clubs.solo(100, 0, 0);
        begins.table(1, 0, 0, 0);
        int silent = Clubs.silent(begins);
        int joke = Clubs.own(begins, 0, 40);
        for (int i = 0; i < 25; i++) {
            begins.tell(silent, 0);
        }
        Check.is("no energy is left", begins.expect(joke), 40 - 20);
        Clubs.change(begins, 0);
        Check.is("a set begins with all of it", begins.expect(joke), 40 - 20 + 10);
    }

    private static void drinks() {
        TightFive club = new TightFive();
        club.table(1, 0, 0, 0);
        for (int i = 1; i <= 98; i++) {
            Check.is("a drink", club.drink(0, 1), i);
        }
        Check.is("99", club.drink(0, 1), 99);
        Check.is("99 at most", club.drink(0, 1), 99);
        Check.is("99 at most, by 9", club.drink(0, 9), 99);
        Check.is("99 are kept", club.checksum(), 7L * 961 + 99);
        TightFive over = drunk(20, 95);
        Check.is("95 and 9 are 99", over.drink(0, 9), 99);
        for (int many : new int[] {0, 1, 5, 6, 7, 8, 9, 10}) {
            int due = 40 + 2 * Math.min(6, many) - 4 * Math.max(0, many - 6);
            Check.is(many + " drinks", drunk(40, many).expect(0), due);
        }
    }

    private static void level() {
        TightFive club = Clubs.solo(0, 0, 0);
        club.table(2, 0, 0, 0);
        club.heckle(0, 'w');
        int[] due = {1, 2, 3, 3, 3};
        for (int level : due) {
            Check.is("it does not work", club.answer('j'), false);
            Check.is("a level more by a joke", club.level(), level);
        }
        Check.is("a witty one goes from level 3", club.answer('i'), true);
        club.heckle(0, 'l');
        Check.is("the next one", club.level(), 0);
        for (int i = 0; i < due.length; i++) {
            Check.is("stays", club.answer(i % 2 == 0 ? 'i' : 'j'), false);
            Check.is("a level more by either", club.level(), due[i]);
        }
        Check.is("a doorman takes one of level 3", club.answer('d'), true);
    }

    /** 12 heads laughed by so much each; then a doorman took all but one of them. */
    private static TightFive emptied(int laugh) {
        TightFive club = Clubs.solo(0, 0, 30);
        club.table(12, 0, 0, 0);
        Clubs.own(club, 0, laugh);
        Clubs.own(club, 1, 50);
        club.tell(0, 0);
        for (int i = 0; i < 11; i++) {
            club.heckle(0, 'l');
            club.answer('d');
        }
        return club;
    }

    private static void longestWait() {
        // 17 of 12 heads are 204, for which one head waits 20; 18 of them are 216, for which it waits 21.
        Check.is("mood", emptied(17).mood(0), -100);
        Check.is("20 of 20 waited", emptied(17).tell(1, 20), 50 - 20);
        Check.is("19 of 20 waited", emptied(17).tell(1, 19), 50 - 20 - 10);
        Check.is("20 of 21 waited", emptied(18).tell(1, 20), 50 - 20 - 10);
        Check.is("expected without stepping on it", emptied(18).expect(1), 50 - 20);
        Check.is("a row that waits 20 of 20", emptied(17).best(30), 30);
        Check.is("it takes 30 seconds", emptied(17).best(29), 0);
        Check.is("a row that waits 20 of 21", emptied(18).best(30), 20);
        Check.is("it takes 30 seconds too", emptied(18).best(29), 0);
        // isTrue has to wait 20 at most as well: by a wait of 21 it would find a greater sum.
        Check.is("true behind a wait of 21", emptied(18).isTrue(), true);
    }
}
