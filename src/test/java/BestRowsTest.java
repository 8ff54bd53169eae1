import java.util.NoSuchElementException;

/**
 * Promises 24 and 25 again: the best set against all rows told for real, each one in a club of its
 * own and by calls of the public face alone.
 */
public final class BestRowsTest {
    private static final int[] LIMITS = {20, 45, 60, 100, 300, 600};

    private long number = 12345;
    private int[] heads;
    private int[][] jokes;
    private int[][] tags;
    private int[][] tables;
    private int told;

    private int bestSum;
    private int[] bestRow;

    public static void main(String[] args) {
        BestRowsTest test = new BestRowsTest();
        for (int i = 0; i < 25; i++) {
            test.draw();
            for (int limit : LIMITS) {
                test.compare(i, limit);
            }
        }
        Check.finish("BestRowsTest");
    }

    // The same numbers in each run, so that a failure can be seen again.
    private int draw(int least, int most) {
        number = number * 6364136223846793005L + 1442695040888963407L;
        return least + (int) ((number >>> 33) % (most - least + 1));
    }

    private void draw() {
        jokes = new int[draw(1, 4)][];
        for (int i = 0; i < jokes.length; i++) {
            jokes[i] = new int[] {draw(0, 3), draw(0, 1), draw(1, 50), draw(5, 40), draw(-2, i - 1)};
        }
        tags = new int[draw(0, 4)][];
        for (int i = 0; i < tags.length; i++) {
            tags[i] = new int[] {draw(0, jokes.length - 1), draw(1, 50), draw(5, 20)};
        }
        tables = new int[draw(1, 4)][];
        heads = new int[tables.length];
        for (int i = 0; i < tables.length; i++) {
            heads[i] = draw(1, 12);
            tables[i] = new int[] {heads[i], draw(0, 9), draw(0, 1), draw(0, 5) == 0 ? 1 : 0, draw(0, 9)};
        }
        told = draw(-1, jokes.length - 1);
    }

    /** The club that was drawn, in which perhaps one joke was told already. */
    private TightFive setUp() {
        TightFive club = new TightFive();
        club.comedian(65535, 80, 9, 0);
        for (int i = 0; i < jokes.length; i++) {
            int[] joke = jokes[i];
            if (joke[4] >= 0) {
                club.callback(joke[4], joke[2], joke[3]);
            } else {
                club.joke(i, joke[0], joke[1], joke[2], joke[3]);
            }
            club.give(0, i);
        }
        for (int[] tag : tags) {
            if (club.told(tag[0]) == 0) {
                addTag(club, tag);
            }
        }
        for (int i = 0; i < tables.length; i++) {
            club.table(tables[i][0], tables[i][1], tables[i][2], tables[i][3]);
            if (tables[i][4] > 0) {
                club.drink(i, tables[i][4]);
            }
        }
        club.book(0, 0, 600);
        club.next();
        if (told >= 0) {
            club.tell(told, 0);
        }
        return club;
    }

    private static void addTag(TightFive club, int[] tag) {
        try {
            club.tag(tag[0], tag[1], tag[2]);
        } catch (IllegalStateException e) {
            // The joke has 3 tags already: this one is left out, in each club alike.
        }
    }

    private void compare(int which, int limit) {
        bestSum = 0;
        bestRow = new int[0];
        tellLonger(new int[0], limit);
        TightFive club = setUp();
        Check.is("club " + which + ", " + limit + " seconds", club.best(limit), bestSum);
        for (int i = 0; i < bestRow.length; i++) {
            Check.is("club " + which + ", " + limit + " seconds, place " + i, club.bestAt(limit, i),
                    bestRow[i]);
        }
        try {
            Check.is("club " + which + ", places", club.bestAt(limit, bestRow.length), "thrown");
        } catch (NoSuchElementException e) {
            Check.is("club " + which + ", places", "thrown", "thrown");
        }
        Check.is("club " + which + " is true", club.isTrue(), true);
    }

    private void tellLonger(int[] row, int limit) {
        for (int joke = 0; joke < jokes.length; joke++) {
            int[] longer = java.util.Arrays.copyOf(row, row.length + 1);
            longer[row.length] = joke;
            if (contains(row, joke)) {
                continue;
            }
            tellRow(longer, limit);
            tellLonger(longer, limit);
        }
    }

    private static boolean contains(int[] row, int joke) {
        for (int other : row) {
            if (other == joke) {
                return true;
            }
        }
        return false;
    }

    private void tellRow(int[] row, int limit) {
        TightFive club = setUp();
        int before = club.seconds();
        int sum = 0;
        for (int i = 0; i < row.length; i++) {
            int wait = i > 0 || told >= 0 ? Math.min(20, leastWait(club)) : 0;
            sum += club.tell(row[i], wait);
        }
        boolean better = sum > bestSum || sum == bestSum && row.length < bestRow.length
                || sum == bestSum && row.length == bestRow.length
                && java.util.Arrays.compare(row, bestRow) < 0;
        if (club.seconds() - before <= limit && better) {
            bestSum = sum;
            bestRow = row;
        }
    }

    private int leastWait(TightFive club) {
        int laugh = 0;
        for (int i = 0; i < heads.length; i++) {
            laugh += heads[i] * club.laughOf(i);
        }
        return laugh > 0 ? laugh / (10 * club.heads()) : 0;
    }
}
