import java.util.ArrayList;
import java.util.Arrays;
import java.util.Collections;
import java.util.HashMap;
import java.util.List;
import java.util.Map;
import java.util.NoSuchElementException;

/**
 * The document once more, sentence by sentence and without a thought of speed: ModelTest holds the
 * program against it. It shares no code with the program, and copies its world for what is tried.
 */
final class Model {
    private static final class Part {
        int strength;
        final int seconds;

        Part(int strength, int seconds) {
            this.strength = strength;
            this.seconds = seconds;
        }
    }

    private static final class Joke {
        int premise;
        int subject;
        int facts;
        Integer seed;
        final List<Part> parts = new ArrayList<>();
    }

    private static final class Comedian {
        int subjects;
        int energy;
        int nerves;
        int wit;
        final List<Integer> jokes = new ArrayList<>();
        final List<Integer> bannedNights = new ArrayList<>();
        long laughs;
        long got;
        int groans;
    }

    private static final class Table {
        int heads;
        int distance;
        int facts;
        int minds;
        int drinks;
    }

    private static final class Booking {
        int comedian;
        int slot;
        int seconds;
    }

    private static final class Heckler {
        int table;
        char kind;
        int level;
    }

    /** What telling changes; a copy of it is the world in which a row is tried. */
    private static final class World {
        List<Integer> moods = new ArrayList<>();
        List<Integer> lastLaughs = new ArrayList<>();
        List<Integer> told = new ArrayList<>();
        List<Integer> toldInSet = new ArrayList<>();
        Integer lastPart;
        int energy;
        int seconds;
        int laughs;
        int groans;
        int parts;
        int laughedParts;

        World copy() {
            World copy = new World();
            copy.moods.addAll(moods);
            copy.lastLaughs.addAll(lastLaughs);
            copy.told.addAll(told);
            copy.toldInSet.addAll(toldInSet);
            copy.lastPart = lastPart;
            copy.energy = energy;
            copy.seconds = seconds;
            copy.laughs = laughs;
            return copy;
        }
    }

    private final List<Joke> jokes = new ArrayList<>();
    private final List<Comedian> comedians = new ArrayList<>();
    private final List<Table> tables = new ArrayList<>();
    private final List<Booking> bookings = new ArrayList<>();
    private final Map<Integer, int[]> premises = new HashMap<>();
    private final Map<Integer, Integer> subjects = new HashMap<>();
    private final Map<Integer, Integer> secondsOfNight = new HashMap<>();
    private final Map<Integer, Integer> finesOfNight = new HashMap<>();
    private World world = new World();
    private Booking stage;
    private Heckler heckler;
    private int hecklers;
    private int nights;
    private int price;
    private int share;
    private int bestSum;
    private List<Integer> bestRow;

    // --- jokes, comedians, tables ---

    int joke(int premise, int subject, int facts, int strength, int seconds) {
        argument(premise >= 0 && premise <= 99 && subject >= 0 && subject <= 15);
        argument(facts >= 0 && facts <= 255);
        argument(isPart(strength, seconds));
        state(jokes.size() < 16);
        return write(premise, subject, facts, null, new Part(strength, seconds));
    }

    int callback(int seed, int strength, int seconds) {
        index(seed, jokes.size());
        argument(isPart(strength, seconds));
        state(jokes.size() < 16);
        Joke other = jokes.get(seed);
        return write(other.premise, other.subject, other.facts, seed, new Part(strength, seconds));
    }

    private int write(int premise, int subject, int facts, Integer seed, Part part) {
        Joke joke = new Joke();
        joke.premise = premise;
        joke.subject = subject;
        joke.facts = facts;
        joke.seed = seed;
        joke.parts.add(part);
        jokes.add(joke);
        return jokes.size() - 1;
    }

    int tag(int joke, int strength, int seconds) {
        index(joke, jokes.size());
        argument(isPart(strength, seconds));
        List<Part> parts = jokes.get(joke).parts;
        state(parts.size() - 1 < 3);
        parts.add(new Part(strength, seconds));
        return parts.size() - 1;
    }

    int rewrite(int joke, int strength) {
        index(joke, jokes.size());
        argument(strength >= 1 && strength <= 50);
        int before = jokes.get(joke).parts.get(0).strength;
        jokes.get(joke).parts.get(0).strength = strength;
        return before;
    }

    int comedian(int subjects, int energy, int nerves, int wit) {
        argument(isBits(subjects) && energy >= 0 && energy <= 100);
        argument(nerves >= 0 && nerves <= 30 && wit >= 0 && wit <= 100);
        state(comedians.size() < 6);
        Comedian comedian = new Comedian();
        comedian.subjects = subjects;
        comedian.energy = energy;
        comedian.nerves = nerves;
        comedian.wit = wit;
        comedians.add(comedian);
        return comedians.size() - 1;
    }

    int give(int comedian, int joke) {
        index(comedian, comedians.size());
        index(joke, jokes.size());
        List<Integer> had = comedians.get(comedian).jokes;
        unsupported(!had.contains(joke));
        state(had.size() < 6);
        had.add(joke);
        return had.size();
    }

    int table(int heads, int distance, int facts, int minds) {
        argument(heads >= 1 && heads <= 12 && distance >= 0 && distance <= 9);
        argument(facts >= 0 && facts <= 255 && isBits(minds));
        state(tables.size() < 8);
        Table table = new Table();
        table.heads = heads;
        table.distance = distance;
        table.facts = facts;
        table.minds = minds;
        tables.add(table);
        world.moods.add(0);
        return tables.size() - 1;
    }

    int drink(int table, int many) {
        index(table, tables.size());
        argument(many >= 1 && many <= 9);
        tables.get(table).drinks = Math.min(99, tables.get(table).drinks + many);
        return tables.get(table).drinks;
    }

    int mood(int table) {
        index(table, tables.size());
        return world.moods.get(table);
    }

    int heads() {
        int heads = 0;
        for (Table table : tables) {
            heads += table.heads;
        }
        return heads;
    }

    // --- the bill ---

    int book(int comedian, int slot, int seconds) {
        index(comedian, comedians.size());
        argument(slot >= 0 && slot <= 99 && seconds >= 60 && seconds <= 1800);
        for (Booking other : bookings) {
            unsupported(other.comedian != comedian);
        }
        unsupported(stage == null || stage.comedian != comedian);
        unsupported(!isBanned(comedian));
        Booking booking = new Booking();
        booking.comedian = comedian;
        booking.slot = slot;
        booking.seconds = seconds;
        bookings.add(booking);
        return bookings.size();
    }

    int next() {
        state(stage == null);
        element(!bookings.isEmpty());
        for (int slot = 0; stage == null; slot++) {
            for (Booking booking : bookings) {
                if (booking.slot == slot && stage == null) {
                    stage = booking;
                }
            }
        }
        bookings.remove(stage);
        world.toldInSet.clear();
        world.seconds = 0;
        world.laughs = 0;
        world.energy = comedians.get(stage.comedian).energy;
        return stage.comedian;
    }

    int on() {
        return stage == null ? -1 : stage.comedian;
    }

    int seconds() {
        state(stage != null);
        return world.seconds;
    }

    boolean isAtLight() {
        state(stage != null);
        return world.seconds >= stage.seconds - 60;
    }

    int end() {
        state(stage != null);
        int who = stage.comedian;
        for (int joke : world.toldInSet) {
            subjects.putIfAbsent(jokes.get(joke).subject, who);
        }
        secondsOfNight.merge(who, world.seconds, Integer::sum);
        int above = world.seconds - stage.seconds;
        finesOfNight.merge(who, above > 0 ? 2 * above : 0, Integer::sum);
        heckler = null;
        stage = null;
        return world.laughs;
    }

    // --- telling ---

    int tell(int joke, int wait) {
        index(joke, jokes.size());
        argument(wait >= 0 && wait <= 20);
        state(stage != null);
        unsupported(isTheirs(joke));
        int before = world.laughs;
        world.groans = 0;
        tellIn(world, joke, wait, true);
        Comedian who = comedians.get(stage.comedian);
        who.laughs += world.laughs - before;
        who.groans += world.groans;
        premises.putIfAbsent(jokes.get(joke).premise, new int[] {stage.comedian, nights});
        return world.laughs - before;
    }

    private boolean isTheirs(int joke) {
        Comedian who = comedians.get(stage.comedian);
        return who.jokes.contains(joke) && hasBit(who.subjects, jokes.get(joke).subject);
    }

    private int leastWait(World in) {
        boolean first = in.toldInSet.isEmpty();
        return first || in.lastPart == null || in.lastPart <= 0 ? 0 : in.lastPart / (10 * heads());
    }

    private void tellIn(World in, int joke, int wait, boolean maySteps) {
        boolean steps = maySteps && wait < leastWait(in);
        boolean nervous = in.seconds < 60;
        in.seconds += wait;
        int laugh = 1;
        for (int part = 0; part < jokes.get(joke).parts.size() && laugh > 0; part++) {
            laugh = 0;
            in.lastLaughs.clear();
            for (int table = 0; table < tables.size(); table++) {
                int one = laughOfTable(in, joke, part, table, steps, nervous);
                in.lastLaughs.add(one);
                laugh += one * tables.get(table).heads;
            }
            in.seconds += jokes.get(joke).parts.get(part).seconds;
            in.laughs += laugh;
            in.lastPart = laugh;
            in.parts++;
            in.laughedParts += laugh > 0 ? 1 : 0;
            changeMoods(in, laugh);
        }
        in.told.add(joke);
        in.toldInSet.add(joke);
        in.energy = Math.max(0, in.energy - 5);
    }

    private int laughOfTable(World in, int joke, int part, int table, boolean steps, boolean nervous) {
        Joke of = jokes.get(joke);
        Table at = tables.get(table);
        int strength = of.parts.get(part).strength;
        if (of.seed != null && !in.told.contains(of.seed)) {
            return 0;
        }
        for (int fact = 0; fact < 8; fact++) {
            if (hasBit(of.facts, fact) && !hasBit(at.facts, fact)) {
                return 0;
            }
        }
        if (hasBit(at.minds, of.subject)) {
            in.groans++;
            return -strength;
        }
        int laugh = strength + cut(in.energy, 10) + cut(in.moods.get(table), 5);
        for (int drink = 1; drink <= at.drinks; drink++) {
            laugh += drink <= 6 ? 2 : -4;
        }
        laugh -= 2 * at.distance;
        laugh -= nervous ? comedians.get(stage.comedian).nerves : 0;
        laugh -= steps && part == 0 ? 10 : 0;
        laugh -= heckler != null ? 5 : 0;
        laugh += of.seed != null ? 10 : 0;
        laugh = in.told.contains(joke) ? cut(laugh, 2) : laugh;
        Integer owner = subjects.get(of.subject);
        laugh = owner != null && owner != stage.comedian ? cut(2 * laugh, 3) : laugh;
        return Math.max(-50, Math.min(99, laugh));
    }

    private void changeMoods(World in, int laugh) {
        for (int i = 0; i < tables.size(); i++) {
            moveMood(in, i, cut(in.lastLaughs.get(i), 4));
        }
        if (laugh <= 0) {
            for (int i = 0; i < tables.size(); i++) {
                moveMood(in, i, -5);
            }
        }
        List<Integer> ahead = new ArrayList<>(in.moods);
        for (int i = 0; i < tables.size(); i++) {
            List<Integer> neighbours = new ArrayList<>();
            if (i > 0) {
                neighbours.add(ahead.get(i - 1));
            }
            if (i < tables.size() - 1) {
                neighbours.add(ahead.get(i + 1));
            }
            int sum = 0;
            for (int mood : neighbours) {
                sum += mood;
            }
            if (!neighbours.isEmpty()) {
                moveMood(in, i, cut(cut(sum, neighbours.size()) - ahead.get(i), 4));
            }
        }
    }

    private static void moveMood(World in, int table, int by) {
        in.moods.set(table, Math.max(-100, Math.min(100, in.moods.get(table) + by)));
    }

    int laughOf(int table) {
        index(table, tables.size());
        element(table < world.lastLaughs.size());
        return world.lastLaughs.get(table);
    }

    int expect(int joke) {
        index(joke, jokes.size());
        state(stage != null);
        unsupported(isTheirs(joke));
        World tried = world.copy();
        tellIn(tried, joke, 0, false);
        return tried.laughs - world.laughs;
    }

    // --- hecklers ---

    int heckle(int table, char kind) {
        index(table, tables.size());
        argument(kind == 'l' || kind == 'd' || kind == 'w');
        state(stage != null && heckler == null);
        heckler = new Heckler();
        heckler.table = table;
        heckler.kind = kind;
        hecklers++;
        return hecklers;
    }

    boolean answer(char way) {
        argument(way == 'j' || way == 'i' || way == 'd');
        state(heckler != null);
        Table table = tables.get(heckler.table);
        unsupported(way != 'd' || table.heads > 1);
        world.seconds += 10;
        boolean gone = true;
        if (way == 'd') {
            table.heads--;
            moveMood(world, heckler.table, -20);
        } else if (way == 'j') {
            int due = 30 + 10 * heckler.level + table.drinks + (heckler.kind == 'w' ? 15 : 0);
            gone = comedians.get(stage.comedian).wit >= due;
            for (int i = 0; i < tables.size(); i++) {
                moveMood(world, i, gone ? 8 : -6);
            }
        } else {
            gone = heckler.kind == 'w';
        }
        heckler.level = Math.min(3, heckler.level + 1);
        heckler = gone ? null : heckler;
        return gone;
    }

    int level() {
        return heckler == null ? -1 : heckler.level;
    }

    // --- the best set ---

    int best(int seconds) {
        argument(seconds >= 5 && seconds <= 600);
        state(stage != null);
        bestSum = 0;
        bestRow = new ArrayList<>();
        tryLonger(world, new ArrayList<>(), seconds);
        return bestSum;
    }

    int bestAt(int seconds, int index) {
        best(seconds);
        element(index >= 0 && index < bestRow.size());
        return bestRow.get(index);
    }

    private void tryLonger(World from, List<Integer> row, int seconds) {
        // From the greatest number on, so that no tie is right by the order of trying alone.
        for (int joke = jokes.size() - 1; joke >= 0; joke--) {
            if (row.contains(joke) || !isTheirs(joke)) {
                continue;
            }
            World tried = from.copy();
            tellIn(tried, joke, Math.min(20, leastWait(from)), true);
            List<Integer> longer = new ArrayList<>(row);
            longer.add(joke);
            if (tried.seconds - world.seconds <= seconds) {
                keepIfBetter(longer, tried.laughs - world.laughs);
            }
            tryLonger(tried, longer, seconds);
        }
    }

    private void keepIfBetter(List<Integer> row, int sum) {
        boolean better = sum > bestSum;
        if (sum == bestSum) {
            better = row.size() < bestRow.size();
            for (int i = 0; i < row.size() && row.size() == bestRow.size(); i++) {
                if (!row.get(i).equals(bestRow.get(i))) {
                    better = row.get(i) < bestRow.get(i);
                    break;
                }
            }
        }
        if (better) {
            bestSum = sum;
            bestRow = row;
        }
    }

    // --- what was told and had ---

    int told(int joke) {
        index(joke, jokes.size());
        return Collections.frequency(world.told, joke);
    }

    int hadBy(int subject) {
        argument(subject >= 0 && subject <= 15);
        element(subjects.containsKey(subject));
        return subjects.get(subject);
    }

    int firstBy(int premise) {
        argument(premise >= 0 && premise <= 99);
        element(premises.containsKey(premise));
        return premises.get(premise)[0];
    }

    int firstNight(int premise) {
        firstBy(premise);
        return premises.get(premise)[1];
    }

    int stolen(int comedian) {
        index(comedian, comedians.size());
        int stolen = 0;
        for (int joke : comedians.get(comedian).jokes) {
            int[] first = premises.get(jokes.get(joke).premise);
            stolen += first != null && first[0] != comedian ? 1 : 0;
        }
        return stolen;
    }

    // --- money and nights ---

    int price(int cents, int share) {
        argument(cents >= 0 && cents <= 9999 && share >= 0 && share <= 100);
        int before = price;
        price = cents;
        this.share = share;
        return before;
    }

    int close() {
        state(stage == null);
        int door = price * heads();
        long given = (long) door * share / 100;
        long all = 0;
        for (int seconds : secondsOfNight.values()) {
            all += seconds;
        }
        for (int who : secondsOfNight.keySet()) {
            long part = all == 0 ? 0 : given * secondsOfNight.get(who) / all;
            comedians.get(who).got += part - finesOfNight.get(who);
        }
        for (Comedian comedian : comedians) {
            if (comedian.groans >= 12) {
                comedian.bannedNights.addAll(Arrays.asList(nights + 1, nights + 2));
            }
            comedian.groans = 0;
        }
        beginNight();
        return door;
    }

    private void beginNight() {
        nights++;
        hecklers = 0;
        bookings.clear();
        subjects.clear();
        secondsOfNight.clear();
        finesOfNight.clear();
        World before = world;
        world = new World();
        for (int i = 0; i < tables.size(); i++) {
            world.moods.add(cut(before.moods.get(i), 2));
            tables.get(i).drinks = 0;
        }
    }

    int night() {
        return nights;
    }

    long got(int comedian) {
        index(comedian, comedians.size());
        return comedians.get(comedian).got;
    }

    int groans(int comedian) {
        index(comedian, comedians.size());
        return comedians.get(comedian).groans;
    }

    boolean isBanned(int comedian) {
        index(comedian, comedians.size());
        return comedians.get(comedian).bannedNights.contains(nights);
    }

    long laughs(int comedian) {
        index(comedian, comedians.size());
        return comedians.get(comedian).laughs;
    }

    int rank(int place) {
        element(place >= 0 && place < comedians.size());
        List<Integer> order = new ArrayList<>();
        for (int i = 0; i < comedians.size(); i++) {
            order.add(i);
        }
        // The sort is stable: of like ones the lowest number stays ahead.
        order.sort((a, b) -> Long.compare(comedians.get(b).laughs, comedians.get(a).laughs));
        return order.get(place);
    }

    // --- sums ---

    float laughShare() {
        arithmetic(world.parts > 0);
        return (float) world.laughedParts / (float) world.parts;
    }

    double meanMood() {
        arithmetic(!tables.isEmpty());
        int sum = 0;
        for (int mood : world.moods) {
            sum += mood;
        }
        return (double) sum / (double) tables.size();
    }

    long checksum() {
        long sum = 7;
        for (int i = 0; i < tables.size(); i++) {
            sum = sum * 31 + world.moods.get(i);
            sum = sum * 31 + tables.get(i).drinks;
        }
        for (Comedian comedian : comedians) {
            sum = sum * 31 + comedian.laughs;
            sum = sum * 31 + comedian.got;
        }
        for (int i = 0; i < jokes.size(); i++) {
            sum = sum * 31 + told(i);
        }
        return sum;
    }

    boolean isTrue() {
        return true;
    }

    // --- what ModelTest draws from ---

    int jokes() {
        return jokes.size();
    }

    int comedians() {
        return comedians.size();
    }

    int tables() {
        return tables.size();
    }

    List<Integer> jokesOf(int comedian) {
        return comedians.get(comedian).jokes;
    }

    // --- the words of the document ---

    /** The quotient, cut toward 0 on both sides of it. */
    static int cut(int number, int divisor) {
        int quotient = Math.floorDiv(Math.abs(number), divisor);
        return number < 0 ? -quotient : quotient;
    }

    private static boolean hasBit(int bits, int place) {
        return (bits & (1 << place)) != 0;
    }

    private static boolean isBits(int number) {
        return number >= 0 && number <= 65535;
    }

    private static boolean isPart(int strength, int seconds) {
        return strength >= 1 && strength <= 50 && seconds >= 5 && seconds <= 90;
    }

    private static void index(int number, int many) {
        if (number < 0 || number >= many) {
            throw new IndexOutOfBoundsException();
        }
    }

    private static void argument(boolean holds) {
        if (!holds) {
            throw new IllegalArgumentException();
        }
    }

    private static void state(boolean holds) {
        if (!holds) {
            throw new IllegalStateException();
        }
    }

    private static void unsupported(boolean holds) {
        if (!holds) {
            throw new UnsupportedOperationException();
        }
    }

    private static void element(boolean holds) {
        if (!holds) {
            throw new NoSuchElementException();
        }
    }

    private static void arithmetic(boolean holds) {
        if (!holds) {
            throw new ArithmeticException();
        }
    }
}
