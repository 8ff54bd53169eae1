import java.util.ArrayList;
import java.util.Arrays;
import java.util.NoSuchElementException;

/**
 * A comedy club: jokes, comedians, a room of tables whose moods spread, a bill, hecklers, the
 * door's money, and the set that would be the best for the room. README.md tells how to use it.
 */
public final class TightFive {
    private static final int MOST_JOKES = 16;
    private static final int MOST_PARTS = 4;
    private static final int MOST_COMEDIANS = 6;
    private static final int MOST_GIVEN = 6;
    private static final int MOST_TABLES = 8;
    private static final int MOST_DRINKS = 99;
    private static final int MOST_SLOT = 99;
    private static final int MOST_WAIT = 20;
    private static final int MOST_LEVEL = 3;
    private static final int PREMISES = 100;
    private static final int SUBJECTS = 16;
    private static final int ALL_SUBJECTS = 65535;
    // The facts are numbered 0 to 7, each one a bit.
    private static final int ALL_FACTS = 255;
    private static final int MOOD_END = 100;
    private static final int NERVOUS_SECONDS = 60;
    private static final int LIGHT_SECONDS = 60;
    private static final int ANSWER_SECONDS = 10;
    private static final int BANNING_GROANS = 12;
    private static final int BANNED_NIGHTS = 2;
    private static final int CHECKED_JOKES = 4;
    private static final int CHECKED_SECONDS = 300;
    // A row of the check is a number with a digit for each joke; ROWS is BASE to CHECKED_JOKES.
    private static final int BASE = CHECKED_JOKES + 1;
    private static final int ROWS = BASE * BASE * BASE * BASE;
    private static final int NOBODY = -1;

    private final ArrayList<Joke> jokes = new ArrayList<>();
    private final ArrayList<Comedian> comedians = new ArrayList<>();
    private final ArrayList<Table> tables = new ArrayList<>();
    private final ArrayList<Spot> bookings = new ArrayList<>();
    private final int[] firstComedians = new int[PREMISES];
    private final int[] firstNights = new int[PREMISES];
    private final Night tonight = new Night();
    private final Till till = new Till();
    private final Delivery delivery = new Delivery();
    private final Search search = new Search();
    private final Scene scene;
    private Spot onStage;
    private Heckler heckler;

    public TightFive() {
        Arrays.fill(firstComedians, NOBODY);
        Scene chain = new Scene(null);
        // The real scene has one more ahead of it for each joke of the longest row tried from it.
        for (int i = 0; i < MOST_GIVEN; i++) {
            chain = new Scene(chain);
        }
        scene = chain;
    }

    public int joke(int premise, int subject, int facts, int strength, int seconds)
            throws IllegalArgumentException, IllegalStateException {
        requireRange(premise, 0, PREMISES - 1);
        requireRange(subject, 0, SUBJECTS - 1);
        requireRange(facts, 0, ALL_FACTS);
        requirePart(strength, seconds);
        requireSpace(jokes.size(), MOST_JOKES);
        Joke written = new Joke(jokes.size(), premise, subject, facts, NOBODY);
        written.addPart(strength, seconds);
        jokes.add(written);
        return written.number;
    }

    public int callback(int seed, int strength, int seconds)
            throws IndexOutOfBoundsException, IllegalArgumentException, IllegalStateException {
        Joke planted = jokeAt(seed);
        requirePart(strength, seconds);
        requireSpace(jokes.size(), MOST_JOKES);
        Joke written = new Joke(jokes.size(), planted.premise, planted.subject, planted.facts, seed);
        written.addPart(strength, seconds);
        jokes.add(written);
        return written.number;
    }

    public int tag(int joke, int strength, int seconds)
            throws IndexOutOfBoundsException, IllegalArgumentException, IllegalStateException {
        Joke tagged = jokeAt(joke);
        requirePart(strength, seconds);
        requireSpace(tagged.parts, MOST_PARTS);
        tagged.addPart(strength, seconds);
        return tagged.parts - 1;
    }

    public int rewrite(int joke, int strength)
            throws IndexOutOfBoundsException, IllegalArgumentException {
        Joke rewritten = jokeAt(joke);
        requireStrength(strength);
        int before = rewritten.strengthOf(0);
        rewritten.setStrength(strength);
        return before;
    }

    public int comedian(int subjects, int energy, int nerves, int wit)
            throws IllegalArgumentException, IllegalStateException {
        requireRange(subjects, 0, ALL_SUBJECTS);
        requireRange(energy, 0, 100);
        requireRange(nerves, 0, 30);
        requireRange(wit, 0, 100);
        requireSpace(comedians.size(), MOST_COMEDIANS);
        comedians.add(new Comedian(subjects, energy, nerves, wit));
        return comedians.size() - 1;
    }

    public int give(int comedian, int joke)
            throws IndexOutOfBoundsException, UnsupportedOperationException, IllegalStateException {
        Comedian who = comedianAt(comedian);
        Joke given = jokeAt(joke);
        if (who.has(given)) {
            throw new UnsupportedOperationException("they have that joke");
        }
        int many = Integer.bitCount(who.given);
        requireSpace(many, MOST_GIVEN);
        who.given |= 1 << given.number;
        return many + 1;
    }

    public int table(int heads, int distance, int facts, int minds)
            throws IllegalArgumentException, IllegalStateException {
        requireRange(heads, 1, 12);
        requireRange(distance, 0, 9);
        requireRange(facts, 0, ALL_FACTS);
        requireRange(minds, 0, ALL_SUBJECTS);
        requireSpace(tables.size(), MOST_TABLES);
        tables.add(new Table(heads, distance, facts, minds));
        return tables.size() - 1;
    }

    public int drink(int table, int many)
            throws IndexOutOfBoundsException, IllegalArgumentException {
        Table served = tableAt(table);
        requireRange(many, 1, 9);
        served.drinks = Math.min(MOST_DRINKS, served.drinks + many);
        return served.drinks;
    }

    public int mood(int table) throws IndexOutOfBoundsException {
        tableAt(table);
        return scene.moodOf(table);
    }

    public int heads() {
        int sum = 0;
        for (int i = 0; i < tables.size(); i++) {
            sum += tables.get(i).heads;
        }
        return sum;
    }

    public int book(int comedian, int slot, int seconds)
            throws IndexOutOfBoundsException, IllegalArgumentException, UnsupportedOperationException {
        Comedian who = comedianAt(comedian);
        requireRange(slot, 0, MOST_SLOT);
        requireRange(seconds, 60, 1800);
        if (isOnBill(comedian) || who.isOut(tonight.number)) {
            throw new UnsupportedOperationException("they are booked or on already, or banned");
        }
        bookings.add(new Spot(who, comedian, slot, seconds));
        return bookings.size();
    }

    public int next() throws IllegalStateException, NoSuchElementException {
        requireEmptyStage();
        int place = placeOfLowestSlot();
        if (place < 0 || place >= bookings.size()) {
            throw new NoSuchElementException("nobody is booked");
        }
        Spot spot = bookings.remove(place);
        scene.beginSet(spot.who.energy);
        onStage = spot;
        return spot.comedian;
    }

    public int on() {
        return onStage == null ? NOBODY : onStage.comedian;
    }

    public int tell(int joke, int wait)
            throws IndexOutOfBoundsException, IllegalArgumentException, IllegalStateException,
            UnsupportedOperationException {
        Joke told = jokeAt(joke);
        requireRange(wait, 0, MOST_WAIT);
        Spot spot = spotOnStage();
        requireTellable(spot, told);
        int before = scene.laughs;
        perform(scene, spot, told, wait);
        int laughs = scene.laughs - before;
        told.told++;
        spot.subjects |= 1 << told.subject;
        spot.who.laughs += laughs;
        spot.who.groans += scene.groans;
        tonight.count(scene, tables.size());
        claimPremise(told.premise, spot.comedian);
        return laughs;
    }

    public int laughOf(int table) throws IndexOutOfBoundsException, NoSuchElementException {
        tableAt(table);
        if (table >= tonight.tablesAtLastPart) {
            throw new NoSuchElementException("no part was told with that table there");
        }
        return scene.laughAt(table);
    }

    public int seconds() throws IllegalStateException {
        spotOnStage();
        return scene.seconds;
    }

    public boolean isAtLight() throws IllegalStateException {
        return spotOnStage().seconds - scene.seconds <= LIGHT_SECONDS;
    }

    public int end() throws IllegalStateException {
        Spot spot = spotOnStage();
        tonight.haveSubjects(spot);
        spot.who.seconds += scene.seconds;
        spot.who.fines += 2 * Math.max(0, scene.seconds - spot.seconds);
        heckler = null;
        onStage = null;
        return scene.laughs;
    }

    public int heckle(int table, char kind)
            throws IndexOutOfBoundsException, IllegalArgumentException, IllegalStateException {
        Table theirs = tableAt(table);
        if (kind != 'l' && kind != 'd' && kind != 'w') {
            throw new IllegalArgumentException("there is no such kind");
        }
        if (onStage == null || heckler != null) {
            throw new IllegalStateException("nobody is on, or there is a heckler");
        }
        heckler = new Heckler(theirs, table, kind == 'w');
        tonight.hecklers++;
        return tonight.hecklers;
    }

    public boolean answer(char way)
            throws IllegalArgumentException, IllegalStateException, UnsupportedOperationException {
        if (way != 'j' && way != 'i' && way != 'd') {
            throw new IllegalArgumentException("there is no such way");
        }
        Heckler heard = heckler;
        if (heard == null || onStage == null) {
            throw new IllegalStateException("there is no heckler");
        }
        if (way == 'd' && heard.table.heads <= 1) {
            throw new UnsupportedOperationException("a table would lose its last head");
        }
        boolean gone = way == 'j' ? answerByJoke(heard, onStage.who.wit)
                : way == 'i' ? answerByIgnoring(heard) : answerByDoorman(heard);
        scene.seconds += ANSWER_SECONDS;
        if (gone) {
            heckler = null;
        }
        return gone;
    }

    public int level() {
        return heckler == null ? -1 : heckler.level;
    }

    public int expect(int joke)
            throws IndexOutOfBoundsException, IllegalStateException, UnsupportedOperationException {
        Joke expected = jokeAt(joke);
        Spot spot = spotOnStage();
        requireTellable(spot, expected);
        Scene trial = scene.ahead;
        if (trial == null) {
            return 0;
        }
        trial.copyFrom(scene);
        perform(trial, spot, expected, pauseNeeded(scene));
        return trial.laughs - scene.laughs;
    }

    public int best(int seconds) throws IllegalArgumentException, IllegalStateException {
        requireRange(seconds, 5, 600);
        findBestRow(spotOnStage(), seconds);
        return search.bestSum;
    }

    public int bestAt(int seconds, int index)
            throws IllegalArgumentException, IllegalStateException, NoSuchElementException {
        requireRange(seconds, 5, 600);
        findBestRow(spotOnStage(), seconds);
        if (index < 0 || index >= search.bestLength) {
            throw new NoSuchElementException("the best set has no such place");
        }
        return entry(search.best, index);
    }

    public int told(int joke) throws IndexOutOfBoundsException {
        return jokeAt(joke).told;
    }

    public int hadBy(int subject) throws IllegalArgumentException, NoSuchElementException {
        requireRange(subject, 0, SUBJECTS - 1);
        return requireSomebody(entry(tonight.hadBy, subject));
    }

    public int firstBy(int premise) throws IllegalArgumentException, NoSuchElementException {
        requireRange(premise, 0, PREMISES - 1);
        return requireSomebody(entry(firstComedians, premise));
    }

    public int firstNight(int premise) throws IllegalArgumentException, NoSuchElementException {
        requireRange(premise, 0, PREMISES - 1);
        requireSomebody(entry(firstComedians, premise));
        return entry(firstNights, premise);
    }

    public int stolen(int comedian) throws IndexOutOfBoundsException {
        Comedian who = comedianAt(comedian);
        int many = 0;
        for (int i = 0; i < jokes.size(); i++) {
            Joke held = jokes.get(i);
            int first = entry(firstComedians, held.premise);
            if (who.has(held) && first != NOBODY && first != comedian) {
                many++;
            }
        }
        return many;
    }

    public int price(int cents, int share) throws IllegalArgumentException {
        requireRange(cents, 0, 9999);
        requireRange(share, 0, 100);
        int before = till.price;
        till.price = cents;
        till.share = share;
        return before;
    }

    public int close() throws IllegalStateException {
        requireEmptyStage();
        int door = till.price * heads();
        long paid = payComedians((long) door * till.share / 100);
        till.doors += door;
        till.kept += door - paid;
        beginNight();
        return door;
    }

    public int night() {
        return tonight.number;
    }

    public long got(int comedian) throws IndexOutOfBoundsException {
        return comedianAt(comedian).got;
    }

    public int groans(int comedian) throws IndexOutOfBoundsException {
        return comedianAt(comedian).groans;
    }

    public boolean isBanned(int comedian) throws IndexOutOfBoundsException {
        return comedianAt(comedian).isOut(tonight.number);
    }

    public long laughs(int comedian) throws IndexOutOfBoundsException {
        return comedianAt(comedian).laughs;
    }

    public int rank(int place) throws NoSuchElementException {
        for (int i = 0; i < comedians.size(); i++) {
            if (placeOf(i) == place) {
                return i;
            }
        }
        throw new NoSuchElementException("there is no such place");
    }

    public float laughShare() throws ArithmeticException {
        if (tonight.parts <= 0) {
            throw new ArithmeticException("no part was told");
        }
        return (float) tonight.laughedParts / (float) tonight.parts;
    }

    public double meanMood() throws ArithmeticException {
        int many = tables.size();
        if (many <= 0) {
            throw new ArithmeticException("there are no tables");
        }
        int sum = 0;
        for (int i = 0; i < many; i++) {
            sum += scene.moodOf(i);
        }
        return (double) sum / (double) many;
    }

    public long checksum() {
        long sum = 7;
        for (int i = 0; i < tables.size(); i++) {
            sum = 31 * sum + scene.moodOf(i);
            sum = 31 * sum + tables.get(i).drinks;
        }
        for (int i = 0; i < comedians.size(); i++) {
            Comedian who = comedians.get(i);
            sum = 31 * sum + who.laughs;
            sum = 31 * sum + who.got;
        }
        for (int i = 0; i < jokes.size(); i++) {
            sum = 31 * sum + jokes.get(i).told;
        }
        return sum;
    }

    public boolean isTrue() {
        return areMoodsInRange() && isMoneyWhole() && isBestRowUnbeaten();
    }

    // --- what is asked of arguments and of the state ---

    private static void requireRange(int number, int least, int most) {
        if (number < least || number > most) {
            throw new IllegalArgumentException("a number is out of range");
        }
    }

    private static void requireStrength(int strength) {
        requireRange(strength, 1, 50);
    }

    private static void requirePart(int strength, int seconds) {
        requireStrength(strength);
        requireRange(seconds, 5, 90);
    }

    private static void requireSpace(int many, int most) {
        if (many >= most) {
            throw new IllegalStateException("there is no space for one more");
        }
    }

    private static int requireSomebody(int comedian) {
        if (comedian == NOBODY) {
            throw new NoSuchElementException("nobody had it");
        }
        return comedian;
    }

    private static void requireTellable(Spot spot, Joke joke) {
        if (!spot.who.canTell(joke)) {
            throw new UnsupportedOperationException("who is on has it not, or may not tell it");
        }
    }

    private void requireEmptyStage() {
        if (onStage != null) {
            throw new IllegalStateException("somebody is on");
        }
    }

    private Spot spotOnStage() {
        if (onStage == null) {
            throw new IllegalStateException("nobody is on");
        }
        return onStage;
    }

    private Joke jokeAt(int number) {
        if (number < 0 || number >= jokes.size()) {
            throw new IndexOutOfBoundsException("there is no such joke");
        }
        return jokes.get(number);
    }

    private Comedian comedianAt(int number) {
        if (number < 0 || number >= comedians.size()) {
            throw new IndexOutOfBoundsException("there is no such comedian");
        }
        return comedians.get(number);
    }

    private Table tableAt(int number) {
        if (number < 0 || number >= tables.size()) {
            throw new IndexOutOfBoundsException("there is no such table");
        }
        return tables.get(number);
    }

    // --- rows of numbers, whose indices are looked at in one place ---

    private static int entry(int[] row, int index) {
        return index >= 0 && index < row.length ? row[index] : 0;
    }

    private static void setEntry(int[] row, int index, int value) {
        if (index >= 0 && index < row.length) {
            row[index] = value;
        }
    }

    private static int clamp(int number, int least, int most) {
        return number < least ? least : number > most ? most : number;
    }

    // --- the bill ---

    private boolean isOnBill(int comedian) {
        if (onStage != null && onStage.comedian == comedian) {
            return true;
        }
        for (int i = 0; i < bookings.size(); i++) {
            if (bookings.get(i).comedian == comedian) {
                return true;
            }
        }
        return false;
    }

    private int placeOfLowestSlot() {
        int place = -1;
        int lowest = MOST_SLOT + 1;
        // Bookings stand in the order of booking, so the first of like slots stays.
        for (int i = 0; i < bookings.size(); i++) {
            int slot = bookings.get(i).slot;
            if (slot < lowest) {
                place = i;
                lowest = slot;
            }
        }
        return place;
    }

    private int placeOf(int comedian) {
        long own = comedianAt(comedian).laughs;
        int ahead = 0;
        for (int i = 0; i < comedians.size(); i++) {
            long other = comedians.get(i).laughs;
            if (other > own || (other == own && i < comedian)) {
                ahead++;
            }
        }
        return ahead;
    }

    private void claimPremise(int premise, int comedian) {
        if (entry(firstComedians, premise) == NOBODY) {
            setEntry(firstComedians, premise, comedian);
            setEntry(firstNights, premise, tonight.number);
        }
    }

    // --- telling: the same for the real scene and for scenes that are only tried ---

    private int pauseNeeded(Scene at) {
        int tenfold = 10 * heads();
        return at.lastLaugh > 0 && tenfold > 0 ? at.lastLaugh / tenfold : 0;
    }

    private void perform(Scene at, Spot spot, Joke joke, int wait) {
        prepare(at, spot, joke, wait);
        at.beginJoke(wait);
        for (int part = 0; part < joke.parts; part++) {
            at.endPart(joke.secondsOf(part), laughOfRoom(at, joke, part));
            at.swayMoods(tables.size());
            at.spreadMoods(tables.size());
            if (at.lastLaugh <= 0) {
                break;
            }
        }
        at.endJoke(joke.number);
    }

    private void prepare(Scene at, Spot spot, Joke joke, int wait) {
        int had = entry(tonight.hadBy, joke.subject);
        delivery.lacksSeed = joke.isCallback() && !at.wasTold(joke.seed);
        delivery.steps = wait < pauseNeeded(at);
        delivery.repeats = at.wasTold(joke.number);
        delivery.spoiled = had != NOBODY && had != spot.comedian;
        int extra = at.energy / 10;
        extra -= at.seconds < NERVOUS_SECONDS ? spot.who.nerves : 0;
        extra -= heckler != null ? 5 : 0;
        extra += joke.isCallback() ? 10 : 0;
        delivery.extra = extra;
    }

    private int laughOfRoom(Scene at, Joke joke, int part) {
        int strength = joke.strengthOf(part);
        int sum = 0;
        for (int i = 0; i < tables.size(); i++) {
            Table table = tables.get(i);
            int laugh = 0;
            if (!delivery.lacksSeed && table.knows(joke.facts)) {
                if (table.minds(joke.subject)) {
                    laugh = -strength;
                    at.groans++;
                } else {
                    laugh = laughOfTable(table, at.moodOf(i), strength, part);
                }
            }
            at.setLaugh(i, laugh);
            sum += laugh * table.heads;
        }
        return sum;
    }

    private int laughOfTable(Table table, int mood, int strength, int part) {
        int laugh = strength + delivery.extra;
        laugh += mood / 5 + table.cheer() - 2 * table.distance;
        if (delivery.steps && part == 0) {
            laugh -= 10;
        }
        if (delivery.repeats) {
            laugh /= 2;
        }
        if (delivery.spoiled) {
            laugh = laugh * 2 / 3;
        }
        return clamp(laugh, -50, 99);
    }

    // --- hecklers: each answer tells whether the heckler is gone ---

    private boolean answerByJoke(Heckler heard, int wit) {
        int needed = 30 + 10 * heard.level + heard.table.drinks + (heard.witty ? 15 : 0);
        boolean works = wit >= needed;
        scene.shiftMoods(tables.size(), works ? 8 : -6);
        if (!works) {
            heard.rise();
        }
        return works;
    }

    private static boolean answerByIgnoring(Heckler heard) {
        if (!heard.witty) {
            heard.rise();
        }
        return heard.witty;
    }

    private boolean answerByDoorman(Heckler heard) {
        heard.table.heads--;
        scene.setMood(heard.place, scene.moodOf(heard.place) - 20);
        return true;
    }

    // --- the best set ---

    private void findBestRow(Spot spot, int seconds) {
        search.bestSum = 0;
        search.bestLength = 0;
        extendRow(this, spot, scene, 0, scene.seconds + seconds);
    }

    // Rows are tried in the order of their numbers, a row ahead of its longer ones, so that of
    // rows with like sums and like lengths the first one found is the one that is due.
    private static void extendRow(TightFive club, Spot spot, Scene from, int depth, int latest) {
        Scene ahead = from.ahead;
        if (ahead == null || depth >= MOST_GIVEN) {
            return;
        }
        for (int i = 0; i < club.jokes.size(); i++) {
            Joke joke = club.jokes.get(i);
            if (!spot.who.canTell(joke) || club.search.isInRow(i, depth)) {
                continue;
            }
            ahead.copyFrom(from);
            club.perform(ahead, spot, joke, Math.min(MOST_WAIT, club.pauseNeeded(from)));
            if (ahead.seconds > latest) {
                continue;
            }
            setEntry(club.search.row, depth, i);
            club.search.keepIfBetter(depth + 1, ahead.laughs - club.scene.laughs);
            extendRow(club, spot, ahead, depth + 1, latest);
        }
    }

    // --- closing ---

    private long payComedians(long pot) {
        long allSeconds = 0;
        for (int i = 0; i < comedians.size(); i++) {
            allSeconds += comedians.get(i).seconds;
        }
        long paid = 0;
        for (int i = 0; i < comedians.size(); i++) {
            Comedian who = comedians.get(i);
            long pay = allSeconds > 0 ? pot * who.seconds / allSeconds : 0;
            pay -= who.fines;
            who.got += pay;
            paid += pay;
        }
        return paid;
    }

    private void beginNight() {
        bookings.clear();
        for (int i = 0; i < comedians.size(); i++) {
            comedians.get(i).endNight(tonight.number);
        }
        for (int i = 0; i < jokes.size(); i++) {
            jokes.get(i).told = 0;
        }
        for (int i = 0; i < tables.size(); i++) {
            tables.get(i).drinks = 0;
            scene.setMood(i, scene.moodOf(i) / 2);
        }
        scene.toldJokes = 0;
        tonight.beginNext();
    }

    // --- the check of the whole ---

    private boolean areMoodsInRange() {
        for (int i = 0; i < tables.size(); i++) {
            int mood = scene.moodOf(i);
            if (mood < -MOOD_END || mood > MOOD_END) {
                return false;
            }
        }
        return true;
    }

    private boolean isMoneyWhole() {
        long sum = till.kept;
        for (int i = 0; i < comedians.size(); i++) {
            sum += comedians.get(i).got;
        }
        return sum == till.doors;
    }

    private boolean isBestRowUnbeaten() {
        Spot spot = onStage;
        if (spot == null || Integer.bitCount(spot.who.given) > CHECKED_JOKES) {
            return true;
        }
        findBestRow(spot, CHECKED_SECONDS);
        // Another way through the rows than the search that is checked, so that it is a check.
        for (int row = 0; row < ROWS; row++) {
            if (isGreaterRow(spot, row)) {
                return false;
            }
        }
        return true;
    }

    private boolean isGreaterRow(Spot spot, int row) {
        Scene trial = scene.ahead;
        if (trial == null) {
            return false;
        }
        trial.copyFrom(scene);
        int inRow = 0;
        int rest = row;
        for (int i = 0; i < CHECKED_JOKES && rest > 0; i++) {
            int number = spot.who.givenAt(rest % BASE - 1);
            if (number < 0 || number >= jokes.size() || (inRow >> number & 1) != 0) {
                return false;
            }
            Joke joke = jokes.get(number);
            if (!spot.who.canTell(joke)) {
                return false;
            }
            perform(trial, spot, joke, Math.min(MOST_WAIT, pauseNeeded(trial)));
            inRow |= 1 << number;
            rest /= BASE;
        }
        return trial.seconds - scene.seconds <= CHECKED_SECONDS
                && trial.laughs - scene.laughs > search.bestSum;
    }

    /** A joke and its tags: part 0 is the joke itself, the others are the tags. */
    private static final class Joke {
        final int number;
        final int premise;
        final int subject;
        final int facts;
        final int seed;
        final int[] strengths = new int[MOST_PARTS];
        final int[] lengths = new int[MOST_PARTS];
        int parts;
        int told;

        Joke(int number, int premise, int subject, int facts, int seed) {
            this.number = number;
            this.premise = premise;
            this.subject = subject;
            this.facts = facts;
            this.seed = seed;
        }

        void addPart(int strength, int seconds) {
            setEntry(strengths, parts, strength);
            setEntry(lengths, parts, seconds);
            parts++;
        }

        void setStrength(int strength) {
            setEntry(strengths, 0, strength);
        }

        int strengthOf(int part) {
            return entry(strengths, part);
        }

        int secondsOf(int part) {
            return entry(lengths, part);
        }

        boolean isCallback() {
            return seed != NOBODY;
        }
    }

    private static final class Comedian {
        final int subjects;
        final int energy;
        final int nerves;
        final int wit;
        int given;
        int groans;
        int seconds;
        int fines;
        int lastNightOut = -1;
        long laughs;
        long got;

        Comedian(int subjects, int energy, int nerves, int wit) {
            this.subjects = subjects;
            this.energy = energy;
            this.nerves = nerves;
            this.wit = wit;
        }

        boolean has(Joke joke) {
            return (given >> joke.number & 1) != 0;
        }

        boolean canTell(Joke joke) {
            return has(joke) && (subjects >> joke.subject & 1) != 0;
        }

        /** The number of the joke at a place among those given, -1 if there is no such place. */
        int givenAt(int place) {
            int left = place;
            for (int number = 0; number < MOST_JOKES; number++) {
                if ((given >> number & 1) == 0) {
                    continue;
                }
                if (left == 0) {
                    return number;
                }
                left--;
            }
            return -1;
        }

        boolean isOut(int night) {
            return night <= lastNightOut;
        }

        void endNight(int night) {
            if (groans >= BANNING_GROANS) {
                lastNightOut = night + BANNED_NIGHTS;
            }
            groans = 0;
            seconds = 0;
            fines = 0;
        }
    }

    /** A table; its mood stands in the scene, since it changes in scenes that are only tried. */
    private static final class Table {
        final int distance;
        final int knownFacts;
        final int mindedSubjects;
        int heads;
        int drinks;

        Table(int heads, int distance, int knownFacts, int mindedSubjects) {
            this.heads = heads;
            this.distance = distance;
            this.knownFacts = knownFacts;
            this.mindedSubjects = mindedSubjects;
        }

        boolean knows(int facts) {
            return (facts & ~knownFacts) == 0;
        }

        boolean minds(int subject) {
            return (mindedSubjects >> subject & 1) != 0;
        }

        int cheer() {
            return drinks <= 6 ? 2 * drinks : 12 - 4 * (drinks - 6);
        }
    }

    /** A booking, and the set that it becomes. */
    private static final class Spot {
        final Comedian who;
        final int comedian;
        final int slot;
        final int seconds;
        int subjects;

        Spot(Comedian who, int comedian, int slot, int seconds) {
            this.who = who;
            this.comedian = comedian;
            this.slot = slot;
            this.seconds = seconds;
        }
    }

    private static final class Heckler {
        final Table table;
        final int place;
        final boolean witty;
        int level;

        Heckler(Table table, int place, boolean witty) {
            this.table = table;
            this.place = place;
            this.witty = witty;
        }

        void rise() {
            level = Math.min(MOST_LEVEL, level + 1);
        }
    }

    /** What holds for all parts of the joke that is being told. */
    private static final class Delivery {
        boolean lacksSeed;
        boolean steps;
        boolean repeats;
        boolean spoiled;
        int extra;
    }

    /**
     * All that telling changes. The real one stands at the head of a chain; those behind it are
     * for trying what would be, so that no call makes new ones.
     */
    private static final class Scene {
        final Scene ahead;
        final int[] moods = new int[MOST_TABLES];
        final int[] tableLaughs = new int[MOST_TABLES];
        int toldJokes;
        int energy;
        int seconds;
        int laughs;
        int lastLaugh;
        int groans;
        int parts;
        int laughedParts;

        Scene(Scene ahead) {
            this.ahead = ahead;
        }

        // What is told of the last part and joke alone is written anew by each telling.
        void copyFrom(Scene other) {
            System.arraycopy(other.moods, 0, moods, 0, MOST_TABLES);
            toldJokes = other.toldJokes;
            energy = other.energy;
            seconds = other.seconds;
            laughs = other.laughs;
            lastLaugh = other.lastLaugh;
        }

        void beginSet(int fullEnergy) {
            energy = fullEnergy;
            seconds = 0;
            laughs = 0;
            // The first joke has no laugh ahead of it to step on.
            lastLaugh = 0;
        }

        void beginJoke(int wait) {
            seconds += wait;
            groans = 0;
            parts = 0;
            laughedParts = 0;
        }

        void endPart(int length, int laugh) {
            seconds += length;
            laughs += laugh;
            lastLaugh = laugh;
            parts++;
            laughedParts += laugh > 0 ? 1 : 0;
        }

        void endJoke(int joke) {
            toldJokes |= 1 << joke;
            energy = Math.max(0, energy - 5);
        }

        boolean wasTold(int joke) {
            return (toldJokes >> joke & 1) != 0;
        }

        int moodOf(int table) {
            return entry(moods, table);
        }

        void setMood(int table, int mood) {
            setEntry(moods, table, clamp(mood, -MOOD_END, MOOD_END));
        }

        int laughAt(int table) {
            return entry(tableLaughs, table);
        }

        void setLaugh(int table, int laugh) {
            setEntry(tableLaughs, table, laugh);
        }

        void shiftMoods(int many, int by) {
            for (int i = 0; i < many; i++) {
                setMood(i, moodOf(i) + by);
            }
        }

        void swayMoods(int many) {
            int chill = lastLaugh <= 0 ? 5 : 0;
            for (int i = 0; i < many; i++) {
                // Two steps, since each one keeps the mood in its range.
                setMood(i, moodOf(i) + laughAt(i) / 4);
                setMood(i, moodOf(i) - chill);
            }
        }

        // A mood that went already must not draw the next table, so the one before is kept.
        void spreadMoods(int many) {
            int before = 0;
            for (int i = 0; i < many; i++) {
                int own = moodOf(i);
                int mean = own;
                if (i > 0 && i + 1 < many) {
                    mean = (before + moodOf(i + 1)) / 2;
                } else if (i > 0) {
                    mean = before;
                } else if (i + 1 < many) {
                    mean = moodOf(i + 1);
                }
                setMood(i, own + (mean - own) / 4);
                before = own;
            }
        }
    }

    /** The row that is being tried, and the best one found. */
    private static final class Search {
        final int[] row = new int[MOST_GIVEN];
        final int[] best = new int[MOST_GIVEN];
        int bestLength;
        int bestSum;

        boolean isInRow(int joke, int length) {
            for (int i = 0; i < length; i++) {
                if (entry(row, i) == joke) {
                    return true;
                }
            }
            return false;
        }

        void keepIfBetter(int length, int sum) {
            if (sum > bestSum || (sum == bestSum && length < bestLength)) {
                System.arraycopy(row, 0, best, 0, MOST_GIVEN);
                bestLength = length;
                bestSum = sum;
            }
        }
    }

    /** What is counted anew each night. */
    private static final class Night {
        final int[] hadBy = new int[SUBJECTS];
        int number;
        int parts;
        int laughedParts;
        int tablesAtLastPart;
        int hecklers;

        Night() {
            Arrays.fill(hadBy, NOBODY);
        }

        void beginNext() {
            Arrays.fill(hadBy, NOBODY);
            number++;
            parts = 0;
            laughedParts = 0;
            tablesAtLastPart = 0;
            hecklers = 0;
        }

        void count(Scene scene, int tables) {
            parts += scene.parts;
            laughedParts += scene.laughedParts;
            tablesAtLastPart = tables;
        }

        void haveSubjects(Spot spot) {
            for (int i = 0; i < SUBJECTS; i++) {
                if ((spot.subjects >> i & 1) != 0 && entry(hadBy, i) == NOBODY) {
                    setEntry(hadBy, i, spot.comedian);
                }
            }
        }
    }

    /** The price, the share, and where the money of all doors went. */
    private static final class Till {
        int price;
        int share;
        long doors;
        long kept;
    }
}
