/** Promises 10 and 40: how moods go behind a part and a night, mood and meanMood. */
public final class MoodTest {
    public static void main(String[] args) {
        threeTables();
        rowIsNoRing();
        meanIsCutTowardZero();
        upperEndByEachStep();
        lowerEndByEachStep();
        nights();
        laterTables();
        meanMood();
        Check.finish("MoodTest");
    }

    private static void moodsAre(String what, TightFive club, int... due) {
        for (int i = 0; i < due.length; i++) {
            Check.is(what + ", table " + i, club.mood(i), due[i]);
        }
    }

    /** Who is on has a joke that all know, and one of subject 1 that needs a fact. */
    private static TightFive club(int strength, int wit) {
        TightFive club = new TightFive();
        club.joke(0, 0, 0, strength, 5);
        club.joke(1, 1, 1, 12, 5);
        club.comedian(65535, 0, 0, wit);
        club.give(0, 0);
        club.give(0, 1);
        club.book(0, 0, 1800);
        club.next();
        return club;
    }

    private static void answerTimes(TightFive club, int many, int table, char way) {
        for (int i = 0; i < many; i++) {
            if (club.level() < 0) {
                club.heckle(table, 'l');
            }
            club.answer(way);
        }
    }

    private static void threeTables() {
        TightFive club = club(40, 0);
        club.table(1, 0, 0, 0);
        club.table(1, 5, 0, 0);
        club.table(1, 0, 0, 1);
        Check.is("40, 30 and -40", club.tell(0, 0), 30);
        // Moods of 10, 7 and -10 go to means of 7, 0 and 7.
        moodsAre("first", club, 10, 6, -6);
        Check.is("21, 15 and -40", club.tell(0, 20), -4);
        // 15, 9 and -16, then 10, 4 and -21 go to means of 4, -5 and 4.
        moodsAre("second", club, 9, 2, -15);
    }

    /** Four tables, one of which a doorman left with a mood of -60; nobody laughs at what is told. */
    private static TightFive withBadTable(int bad) {
        TightFive club = club(1, 0);
        for (int i = 0; i < 4; i++) {
            club.table(4, 0, 0, 0);
        }
        answerTimes(club, 3, bad, 'd');
        Check.is("nobody knows it", club.tell(1, 0), 0);
        return club;
    }

    private static void rowIsNoRing() {
        // All are less by 5; who has no table of -65 at its side stays.
        moodsAre("the first one is bad", withBadTable(0), -65 + 15, -5 - 7, -5, -5);
        moodsAre("the last one is bad", withBadTable(3), -5, -5, -5 - 7, -65 + 15);
        moodsAre("the second one is bad", withBadTable(1), -5 - 15, -65 + 15, -5 - 7, -5);
    }

    private static void meanIsCutTowardZero() {
        TightFive club = club(1, 0);
        club.table(2, 0, 1, 2);
        club.table(1, 0, 0, 0);
        club.table(1, 0, 0, 0);
        answerTimes(club, 1, 0, 'd');
        club.tell(1, 0);
        // -28, -5 and -5 go to means of -5, -16 (not -17) and -5.
        moodsAre("odd sum below 0", club, -23, -7, -5);
    }

    private static void upperEndByEachStep() {
        TightFive club = club(50, 100);
        club.table(1, 0, 0, 0);
        club.table(3, 9, 0, 0);
        club.joke(2, 2, 2, 50, 5);
        club.give(0, 2);
        club.table(1, 0, 2, 0);
        answerTimes(club, 12, 0, 'j');
        answerTimes(club, 2, 1, 'd');
        moodsAre("12 times 8, 2 times 20", club, 96, 56, 96);
        club.tell(2, 0);
        // The last one laughs by 69: 113 is 100 ahead of the going to a mean of 56.
        moodsAre("100 at most ahead of the going", club, 86, 66, 89);
        answerTimes(club, 2, 0, 'j');
        moodsAre("100 at most by an answer", club, 100, 82, 100);
    }

    private static void lowerEndByEachStep() {
        TightFive club = club(1, 0);
        club.table(2, 0, 0, 0);
        club.table(1, 0, 0, 0);
        answerTimes(club, 1, 0, 'd');
        answerTimes(club, 13, 0, 'j');
        moodsAre("20 once, 13 times 6", club, -98, -78);
        club.tell(1, 0);
        // -100 and -83 go to each other.
        moodsAre("-100 at least ahead of the going", club, -96, -87);
        answerTimes(club, 1, 0, 'j');
        moodsAre("-100 at least by an answer", club, -100, -93);
    }

    private static void nights() {
        TightFive club = club(1, 0);
        club.table(1, 0, 0, 0);
        club.table(2, 0, 0, 0);
        answerTimes(club, 1, 1, 'j');
        club.tell(1, 0);
        answerTimes(club, 1, 1, 'd');
        moodsAre("ahead of the close", club, -11, -31);
        club.end();
        club.close();
        moodsAre("halved toward 0", club, -5, -15);
    }

    private static void laterTables() {
        TightFive club = club(1, 0);
        club.table(1, 9, 0, 0);
        club.tell(0, 0);
        club.table(1, 9, 0, 0);
        Check.is("one that came behind a laugh below 0", club.mood(1), 0);
        answerTimes(club, 1, 0, 'j');
        club.table(1, 9, 0, 0);
        Check.is("one that came behind an answer", club.mood(2), 0);
    }

    private static void meanMood() {
        TightFive club = club(30, 0);
        club.table(2, 0, 0, 0);
        Check.is("at first", club.meanMood(), 0.0);
        club.tell(0, 0);
        club.table(1, 0, 0, 0);
        Check.is("the mean of 7 and 0", club.meanMood(), 3.5);
        club.table(1, 0, 0, 0);
        Check.is("the mean of 7, 0 and 0", club.meanMood(), 7.0 / 3.0);
        answerTimes(club, 1, 0, 'd');
        Check.is("the mean of -13, 0 and 0", club.meanMood(), -13.0 / 3.0);
        Check.fails("without tables", ArithmeticException.class, TightFive::new, TightFive::meanMood);
    }
}
