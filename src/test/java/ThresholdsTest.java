/** Each number from which on something holds: just ahead of it, at it, and behind it. */
public final class ThresholdsTest {
    public static void main(String[] args) {
        nervousSeconds();
        nervousByAnswers();
        laughOfRoom();
        tagsOfLaugh();
        stepsBehindLaugh();
        stepsByHeads();
        firstOfSet();
        light();
        secondsAboveBooked();
        groansOfBan();
        nightsOfBan();
        lastHead();
        neededWit();
        rowsOfFiveSeconds();
        rowsOfSixHundredSeconds();
        likeSlots();
        likeRanks();
        Check.finish("ThresholdsTest");
    }

    /** One with nerves who used so many seconds, all of them told to a table that laughs at nothing. */
    private static TightFive used(int seconds, int nerves) {
        TightFive club = Clubs.solo(0, nerves, 30);
        club.table(1, 0, 0, 0);
        int silent = Clubs.silent(club);
        Clubs.own(club, 0, 40);
        club.tag(1, 40, 10);
        Clubs.use(club, silent, seconds);
        return club;
    }

    private static void nervousSeconds() {
        for (int seconds : new int[] {0, 10, 58, 59, 60, 61, 90}) {
            TightFive club = used(seconds, 30);
            int nerves = seconds < 60 ? 30 : 0;
            int first = 40 - nerves + Model.cut(club.mood(0), 5);
            int second = 40 - nerves + Model.cut(club.mood(0) + Model.cut(first, 4), 5);
            Check.is("expected behind " + seconds, club.expect(1), first + second);
            // The wait, and the joke ahead of its tag, are over when 60 seconds are; that changes nothing.
            Check.is("told behind " + seconds, club.tell(1, 20), first + second);
        }
        Check.is("nerves are no more than the laugh", used(0, 30).tell(1, 0), 10 + 10);
    }

    private static void nervousByAnswers() {
        TightFive club = used(0, 7);
        for (int i = 0; i < 5; i++) {
            Clubs.cheer(club);
        }
        Check.is("50 seconds of answers", club.expect(1), 40 + 8 - 7 + 40 + 50 / 5 - 7);
        Clubs.cheer(club);
        Check.is("60 seconds of answers", club.expect(1), 40 + 9 + 40 + (48 + 49 / 4) / 5);
    }

    /** Who told a joke of 20 with a tag to a table that laughs by 20, and one that groans by it. */
    private static TightFive balanced(int energy, int distance) {
        TightFive club = Clubs.solo(energy, 0, 0);
        club.table(1, distance, 0, 0);
        club.table(1, 0, 0, 1);
        int joke = Clubs.own(club, 0, 20);
        club.tag(joke, 1, 5);
        Clubs.own(club, 1, 20);
        club.tell(joke, 0);
        return club;
    }

    private static void laughOfRoom() {
        TightFive none = balanced(0, 0);
        Check.is("20 and -20: all moods are less by 5", none.mood(0), 0 + Model.cut(-10 - 0, 4));
        Check.is("of the other table", none.mood(1), -10 + Model.cut(0 + 10, 4));
        Check.is("a laugh of 0 is not above 0", none.laughShare(), 0.0f);
        Check.is("the tag was not told", none.seconds(), 10);
        TightFive below = balanced(10, 1);
        Check.is("19 and -20: all moods are less by 5", below.mood(0), -1 + Model.cut(-10 + 1, 4));
        Check.is("of the groaning table", below.mood(1), -10 + Model.cut(-1 + 10, 4));
        Check.is("a laugh of -1 is not above 0", below.laughShare(), 0.0f);
        Check.is("no tag behind -1", below.seconds(), 10);
        TightFive above = balanced(10, 0);
        // 21 and -20 are 1: moods of 5 and -5, then 3 and -3. The tag's 2 and -1 change neither: 2, -2.
        Check.is("the tag was told", above.seconds(), 15);
        Check.is("21 and -20: no mood is less by 5", above.mood(0), 2);
        Check.is("of the table that groans then", above.mood(1), -2);
        Check.is("two laughs of 1", above.laughShare(), 1.0f);
        Check.is("their sum", above.end(), 2);
    }

    /** A joke of such a laugh, then tags of 1 each, which become -1 or less behind a fall of the mood. */
    private static int partsTold(int first, int second) {
        TightFive club = Clubs.solo(0, 0, 0);
        club.table(1, 1, 0, 0);
        int joke = Clubs.own(club, 0, first + 2);
        club.tag(joke, second + 2, 5);
        club.tag(joke, 50, 5);
        club.tag(joke, 50, 5);
        club.tell(joke, 0);
        return (club.seconds() - 10) / 5;
    }

    private static void tagsOfLaugh() {
        Check.is("a joke of -1", partsTold(-1, 10), 0);
        Check.is("a joke of 0", partsTold(0, 10), 0);
        Check.is("a joke of 1", partsTold(1, 10), 3);
        Check.is("a tag of -1", partsTold(1, -1), 1);
        Check.is("a tag of 0", partsTold(1, 0), 1);
        Check.is("a tag of 1", partsTold(1, 1), 3);
    }

    /** How much less a joke of 40 is without a wait, behind a part of such a laugh of one head. */
    private static int lostBehind(int laugh) {
        TightFive club = Clubs.solo(0, 0, 0);
        club.table(1, 9, 0, 0);
        club.tell(Clubs.own(club, 0, laugh + 18), 0);
        Check.is("the laugh ahead", club.laughOf(0), laugh);
        int joke = Clubs.own(club, 1, 50);
        int due = club.expect(joke);
        return due - club.tell(joke, 0);
    }

    private static void stepsBehindLaugh() {
        for (int laugh : new int[] {-17, -11, -10, -1, 0, 1, 9}) {
            Check.is("no wait is needed behind " + laugh, lostBehind(laugh), 0);
        }
        for (int laugh : new int[] {10, 11, 32}) {
            Check.is("a wait is needed behind " + laugh, lostBehind(laugh), 10);
        }
    }

    private static int lostOfHeads(int heads, int laugh) {
        TightFive club = Clubs.solo(0, 0, 0);
        club.table(heads, 0, 0, 0);
        club.table(1, 0, 0, 0);
        club.joke(0, 0, 0, laugh, 10);
        club.give(0, 0);
        club.tell(0, 0);
        int joke = Clubs.own(club, 1, 30);
        int due = club.expect(joke);
        return due - club.tell(joke, 0);
    }

    private static void stepsByHeads() {
        Check.is("9 of each of 12 heads", lostOfHeads(11, 9), 0);
        Check.is("10 of each of 12 heads", lostOfHeads(11, 10), 12 * 10);
        Check.is("10 of each of 2 heads", lostOfHeads(1, 10), 2 * 10);
    }

    private static void firstOfSet() {
        TightFive club = Clubs.solo(0, 0, 0);
        club.table(1, 0, 0, 0);
        int first = Clubs.own(club, 0, 50);
        int second = Clubs.own(club, 1, 50);
        int third = Clubs.own(club, 2, 50);
        Check.is("the first one of all", club.tell(first, 0), 50);
        Clubs.change(club, 0);
        Check.is("the first one of the next set", club.tell(second, 0), 50 + 12 / 5);
        Check.is("the second one of it", club.tell(third, 0), 50 + 25 / 5 - 10);
        Clubs.change(club, 0);
        // The mood is 25 and 45 / 4; each joke was told ahead, so that it is halved.
        Check.is("a row's first one needs no wait", club.best(10), (50 + 36 / 5) / 2);
    }

    private static boolean isAtLight(int booked, int used) {
        TightFive club = Clubs.plain();
        club.end();
        club.book(0, 0, booked);
        club.next();
        Clubs.use(club, 0, used);
        return club.isAtLight();
    }

    private static void light() {
        Check.is("60 booked", isAtLight(60, 0), true);
        Check.is("61 booked", isAtLight(61, 0), false);
        Check.is("69 booked, 59 left", isAtLight(69, 10), true);
        Check.is("70 booked, 60 left", isAtLight(70, 10), true);
        Check.is("71 booked, 61 left", isAtLight(71, 10), false);
        Check.is("1800 booked", isAtLight(1800, 0), false);
        Check.is("1800 booked, 1740 used", isAtLight(1800, 1740), true);
        Check.is("1800 booked, 1739 used", isAtLight(1800, 1739), false);
        Check.is("60 booked, none left", isAtLight(60, 60), true);
        Check.is("60 booked, 1 above", isAtLight(60, 61), true);
        Check.is("60 booked, 100 above", isAtLight(60, 160), true);
    }

    private static long fineOf(int... used) {
        TightFive club = Clubs.plain();
        club.end();
        for (int seconds : used) {
            club.book(0, 0, 60);
            club.next();
            Clubs.use(club, 0, seconds);
            club.end();
        }
        club.close();
        Check.is("true behind fines", club.isTrue(), true);
        return -club.got(0);
    }

    private static void secondsAboveBooked() {
        Check.is("59 of 60", fineOf(59), 0L);
        Check.is("60 of 60", fineOf(60), 0L);
        Check.is("61 of 60", fineOf(61), 2L);
        Check.is("62 of 60", fineOf(62), 4L);
        Check.is("61, and 50 of 60", fineOf(61, 50), 2L);
        Check.is("50, and 61 of 60", fineOf(50, 61), 2L);
        Check.is("61, and 61 of 60", fineOf(61, 61), 4L);
        Check.is("none of 60", fineOf(0), 0L);
    }

    /** A night of so many groans at one table, by one comedian in sets of at most 7 jokes. */
    private static TightFive groaned(int many) {
        TightFive club = Clubs.plain();
        club.comedian(65535, 0, 0, 0);
        club.table(1, 9, 0, 1);
        for (int i = 0; i < many; i++) {
            if (i % 7 == 6) {
                Clubs.change(club, 0);
            }
            club.tell(0, 0);
        }
        club.end();
        Check.is("groans", club.groans(0), many);
        club.close();
        Check.is("none in the next night", club.groans(0), 0);
        return club;
    }

    private static void groansOfBan() {
        Check.is("11 groans", groaned(11).isBanned(0), false);
        Check.is("12 groans", groaned(12).isBanned(0), true);
        Check.is("13 groans", groaned(13).isBanned(0), true);
        Check.is("24 groans", groaned(24).isBanned(0), true);
        Check.is("who had no groans", groaned(12).isBanned(1), false);
        Check.answers("booked behind 11", () -> groaned(11), c -> c.book(0, 0, 60));
        Check.fails("booked behind 12", Check.UNSUPPORTED, () -> groaned(12), c -> c.book(0, 0, 60));
    }

    private static void nightsOfBan() {
        TightFive club = groaned(24);
        boolean[] due = {true, true, false, false};
        for (int i = 0; i < due.length; i++) {
            Check.is("banned in night " + club.night(), club.isBanned(0), due[i]);
            club.close();
        }
        club.book(0, 0, 1800);
        club.next();
        for (int i = 0; i < 12; i++) {
            Check.is("not banned in the night of the groans", club.isBanned(0), false);
            club.tell(0, 0);
        }
        Clubs.change(club, 0);
        Check.is("on again in that night", club.on(), 0);
        club.end();
        club.close();
        for (int i = 0; i < 2; i++) {
            Check.is("banned again", club.isBanned(0), true);
            club.close();
        }
        Check.is("and free again", club.isBanned(0), false);
        Check.is("booked again", club.book(0, 0, 60), 1);
    }

    private static TightFive heads(int first, int second) {
        TightFive club = Clubs.solo(0, 0, 0);
        club.table(first, 0, 0, 0);
        club.table(second, 0, 0, 0);
        club.heckle(1, 'l');
        return club;
    }

    private static void lastHead() {
        Check.fails("1 head", Check.UNSUPPORTED, () -> heads(12, 1), c -> c.answer('d'));
        TightFive club = heads(1, 2);
        Check.is("2 heads, beside a table of 1", club.answer('d'), true);
        Check.is("1 and 1 are left", club.heads(), 2);
        club.heckle(1, 'w');
        Check.is("a witty one goes who is ignored", club.answer('i'), true);
        TightFive many = heads(12, 12);
        for (int i = 11; i > 0; i--) {
            many.answer('d');
            Check.is("heads that are left", many.heads(), 12 + i);
            many.heckle(1, 'd');
        }
        Check.fails("the 12th one", Check.UNSUPPORTED, () -> {
            TightFive other = heads(12, 12);
            for (int i = 0; i < 11; i++) {
                other.answer('d');
                other.heckle(1, 'd');
            }
            return other;
        }, c -> c.answer('d'));
    }

    private static boolean works(int wit, char kind, int level, int drinks) {
        TightFive club = Clubs.solo(0, 0, wit);
        club.table(1, 0, 0, 0);
        club.table(1, 0, 0, 0);
        for (int i = 0; i < drinks; i++) {
            club.drink(1, 1);
        }
        club.drink(0, 9);
        club.heckle(1, kind);
        // Only a loud or drunk one rises by being ignored; a witty one by jokes that do not work.
        for (int i = 0; i < level; i++) {
            Check.is("it rises", club.answer(kind == 'w' ? 'j' : 'i'), false);
        }
        return club.answer('j');
    }

    private static void neededWit() {
        for (int level = 0; level <= 3; level++) {
            int due = 30 + 10 * level;
            Check.is("just wit " + due, works(due, 'l', level, 0), true);
            Check.is("a wit less than " + due, works(due - 1, 'd', level, 0), false);
        }
        Check.is("40 drinks", works(100, 'l', 3, 40), true);
        Check.is("41 drinks", works(100, 'l', 3, 41), false);
        Check.is("70 drinks", works(100, 'd', 0, 70), true);
        Check.is("71 drinks", works(100, 'd', 0, 71), false);
        Check.is("55 drinks, witty", works(100, 'w', 0, 55), true);
        Check.is("56 drinks, witty", works(100, 'w', 0, 56), false);
        Check.is("a wit of 0", works(0, 'l', 0, 0), false);
        TightFive risen = Clubs.solo(0, 0, 54);
        risen.table(1, 0, 0, 0);
        risen.heckle(0, 'w');
        Check.is("wit 54 of level 0, witty", risen.answer('j'), true);
        TightFive witty = Clubs.solo(0, 0, 44);
        witty.table(1, 0, 0, 0);
        witty.heckle(0, 'w');
        Check.is("wit 44 of level 0, witty", witty.answer('j'), false);
        Check.is("level 1", witty.level(), 1);
    }

    private static void rowsOfFiveSeconds() {
        TightFive club = Clubs.solo(0, 0, 0);
        club.table(1, 0, 0, 0);
        club.joke(0, 0, 0, 10, 5);
        club.joke(1, 1, 0, 50, 6);
        club.give(0, 0);
        club.give(0, 1);
        Check.is("5 seconds", club.best(5), 10);
        Check.is("its joke", club.bestAt(5, 0), 0);
        Check.is("6 seconds", club.best(6), 50);
        Check.is("its joke", club.bestAt(6, 0), 1);
        // Behind a laugh of 10 it waits a second; behind one of 50, 5 seconds.
        Check.is("11 seconds", club.best(11), 50);
        Check.is("12 seconds", club.best(12), 60);
        Check.is("the lesser one is first", club.bestAt(12, 0), 0);
        Check.is("15 seconds", club.best(15), 60);
        Check.is("16 seconds", club.best(16), 10 + 12 / 5 + 50);
        Check.is("the greater one is first", club.bestAt(16, 0), 1);
    }

    private static void rowsOfSixHundredSeconds() {
        for (int last : new int[] {89, 90}) {
            TightFive club = Clubs.solo(0, 0, 0);
            club.table(1, 0, 0, 0);
            for (int i = 0; i < 5; i++) {
                club.joke(i, i, 0, 1, 90);
                club.give(0, i);
            }
            club.joke(5, 5, 0, 1, last);
            club.give(0, 5);
            club.tag(5, 1, 61);
            // Six jokes of 1, and a tag of 1; no laugh of 1 needs a wait.
            Check.is("6 jokes, " + (511 + last) + " seconds", club.best(600), last == 89 ? 7 : 6);
            Check.is("one second less", club.best(599), 6);
        }
    }

    private static void likeSlots() {
        TightFive club = new TightFive();
        for (int i = 0; i < 6; i++) {
            club.comedian(65535, 0, 0, 0);
        }
        int[] order = {4, 2, 5, 0};
        for (int who : order) {
            club.book(who, 99, 60);
        }
        club.book(1, 98, 60);
        Check.is("a lower slot, booked last", club.next(), 1);
        club.end();
        Check.is("the first one of like ones", club.next(), 4);
        Check.is("booked again behind the like ones", club.book(1, 99, 60), 4);
        club.end();
        Check.is("and who was on, behind those", club.book(4, 99, 60), 5);
        int[] due = {2, 5, 0, 1, 4};
        for (int who : due) {
            Check.is("the next of like ones", club.next(), who);
            club.end();
        }
    }

    private static void likeRanks() {
        TightFive club = new TightFive();
        club.table(1, 0, 0, 0);
        for (int i = 0; i < 6; i++) {
            club.comedian(65535, 0, 0, 0);
            club.joke(i, i, 0, i % 2 == 0 ? 20 : 21, 10);
            club.give(i, i);
        }
        for (int i = 5; i >= 0; i--) {
            club.book(i, 0, 60);
            club.next();
            club.tell(i, 0);
            club.end();
            club.close();
            // The mood of 5 is 2 in the next night, of which a fifth is nothing.
            Check.is("laughs", club.laughs(i), i % 2 == 0 ? 20L : 21L);
        }
        int[] due = {1, 3, 5, 0, 2, 4};
        for (int i = 0; i < 6; i++) {
            Check.is("place " + i, club.rank(i), due[i]);
        }
    }
}
