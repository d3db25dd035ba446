import java.util.ArrayList;
import java.util.Arrays;

/** A barometer league of villages. What each call does is told in the document's promises 1 to 20. */
public final class BarometerLeague {
    private static final int TABLE_DAYS = 12;
    private static final int WEEK_DAYS = 7;
    private static final int FIRST_GLASS = 30;
    private static final int HIGHEST_GLASS = 60;

    private static final int MOST_SIGNS = 8;
    private static final int HIGHEST_KIND = 5;
    private static final int HIGHEST_NUMBER = 60;
    private static final int LAST_DAY_ASKED = 999;

    private static final int MOST_VILLAGES = 6;
    private static final int FIRST_WEIGHT = 20;
    private static final int HIGHEST_WEIGHT = 100;
    private static final int FIRST_COINS = 10;
    private static final int MOST_ALMANACS = 5;
    private static final int PRICE_OF_SHARING = 5;

    private static final int MOST_DAYS_PASSED = 90;
    private static final int MOST_DAYS_ADVISED = 60;
    private static final int MOST_DAYS_AWAITED = 120;
    private static final long DIGEST_START = 1459;

    /** What a sign says, as a factor of its weight; 0 stands for a sign that has not been told yet. */
    private static final int RAIN = 1;
    private static final int DRY = -1;

    private final Weather weather;
    private final ArrayList<Sign> signs;
    private final VillageRow villages;
    private int day;

    /** Used again by every call, so that a long run of calls makes no new rows. */
    private final int[] sayings;
    private final VillageRow trials;

    public BarometerLeague() {
        weather = new Weather();
        signs = new ArrayList<Sign>();
        villages = new VillageRow(MOST_VILLAGES);
        sayings = new int[MOST_SIGNS];
        // advise() tries a village once as it is and once without each sign.
        trials = new VillageRow(MOST_SIGNS + 1);
    }

    // ---- tables, signs, villages

    public int setGlass(int day, int glass) throws IndexOutOfBoundsException, IllegalArgumentException {
        requireTableDay(day);
        if (glass < 0 || glass > HIGHEST_GLASS) {
            throw new IllegalArgumentException("the glass stands at 0 to 60");
        }
        int before = weather.glassOn(day);
        weather.putGlass(day, glass);
        return before;
    }

    public boolean setRain(int day, boolean rains) throws IndexOutOfBoundsException {
        requireTableDay(day);
        boolean before = weather.rainsOn(day);
        weather.putRain(day, rains);
        return before;
    }

    public int sign(int kind, int number) throws IllegalArgumentException, IllegalStateException {
        if (kind < 0 || kind > HIGHEST_KIND) {
            throw new IllegalArgumentException("the kinds of signs are 0 to 5");
        }
        if (number < 0 || number > HIGHEST_NUMBER) {
            throw new IllegalArgumentException("the number of a sign is 0 to 60");
        }
        if (signs.size() >= MOST_SIGNS) {
            throw new IllegalStateException("there are 8 signs");
        }
        signs.add(new Sign(kind, number));
        return signs.size() - 1;
    }

    public int join() throws IllegalStateException {
        if (villages.isFull()) {
            throw new IllegalStateException("there are 6 villages");
        }
        villages.grow();
        return villages.size() - 1;
    }

    public int weigh(int village, int sign, int weight) throws IndexOutOfBoundsException, IllegalArgumentException {
        Village weighing = villages.get(village);
        requireSign(sign);
        if (weight < 0 || weight > HIGHEST_WEIGHT) {
            throw new IllegalArgumentException("a weight is 0 to 100");
        }
        int before = weighing.weightOf(sign);
        weighing.putWeight(sign, weight);
        return before;
    }

    public int share(int village, int from)
            throws IndexOutOfBoundsException, IllegalArgumentException, IllegalStateException {
        Village buyer = villages.get(village);
        Village seller = villages.get(from);
        requireTwo(village, from);
        if (buyer.coins < PRICE_OF_SHARING) {
            throw new IllegalStateException("the village has fewer than 5 coins");
        }
        buyer.buyWeightsOf(seller);
        return buyer.coins;
    }

    // ---- what there is

    public boolean says(int sign, int day) throws IndexOutOfBoundsException, IllegalArgumentException {
        requireSign(sign);
        if (day < 0 || day > LAST_DAY_ASKED) {
            throw new IllegalArgumentException("the day is 0 to 999");
        }
        return signs.get(sign).saysRain(weather, day);
    }

    public int told(int sign, int what) throws IndexOutOfBoundsException {
        requireSign(sign);
        requireWhat(what, 0, 3);
        Sign asked = signs.get(sign);
        switch (what) {
            case 0:
                return asked.kind;
            case 1:
                return asked.number;
            case 2:
                return asked.daysRight(weather);
            default:
                return villages.allWeightsOf(sign);
        }
    }

    public int weight(int village, int sign) throws IndexOutOfBoundsException {
        Village asked = villages.get(village);
        requireSign(sign);
        return asked.weightOf(sign);
    }

    public int about(int village, int what) throws IndexOutOfBoundsException {
        Village asked = villages.get(village);
        requireWhat(what, 0, 6);
        switch (what) {
            case 0:
                return asked.points;
            case 1:
                return asked.coins;
            case 2:
                return asked.rowOfHits;
            case 3:
                return asked.allWeights(signs.size());
            case 4:
                return villages.placeOf(asked);
            case 5:
                return asked.guessesRain(sayingsOn(day)) ? 1 : 0;
            default:
                return asked.leadOfRain(sayingsOn(day));
        }
    }

    public int at(int place) throws IndexOutOfBoundsException {
        for (int v = 0; v < villages.size(); v++) {
            if (villages.placeOf(villages.get(v)) == place) {
                return v;
            }
        }
        throw new IndexOutOfBoundsException("there is no such place");
    }

    public int count(int what) throws IndexOutOfBoundsException {
        requireWhat(what, 0, 6);
        switch (what) {
            case 0:
                return day;
            case 1:
                return signs.size();
            case 2:
                return villages.size();
            case 6:
                return weather.rainyDays();
            default:
                return countOver(villages, what, day);
        }
    }

    // ---- days and what would be

    public int pass(int days) throws IllegalArgumentException {
        requireDays(days, MOST_DAYS_PASSED);
        int hits = liveDays(villages, days);
        day += days;
        return hits;
    }

    public int foresee(int days, int what) throws IllegalArgumentException, IndexOutOfBoundsException {
        requireDays(days, MOST_DAYS_PASSED);
        requireWhat(what, 3, 5);
        trials.clear();
        for (int v = 0; v < villages.size(); v++) {
            trials.addCopy(villages.get(v));
        }
        liveDays(trials, days);
        return countOver(trials, what, day + days);
    }

    public int overtakes(int a, int b) throws IndexOutOfBoundsException, IllegalArgumentException {
        Village first = villages.get(a);
        Village second = villages.get(b);
        requireTwo(a, b);
        trials.clear();
        trials.addCopy(first);
        trials.addCopy(second);
        for (int behind = 0; behind <= MOST_DAYS_AWAITED; behind++) {
            if (trials.get(0).isAheadOf(trials.get(1))) {
                return behind;
            }
            liveDay(trials, day + behind);
        }
        return -1;
    }

    public int advise(int village, int days) throws IndexOutOfBoundsException, IllegalArgumentException {
        Village asking = villages.get(village);
        requireDays(days, MOST_DAYS_ADVISED);
        trials.clear();
        for (int t = 0; t <= signs.size(); t++) {
            trials.addCopy(asking);
        }
        // The trial 0 stays as it is, the trial t goes without the sign t - 1.
        for (int t = 1; t < trials.size(); t++) {
            trials.get(t).putWeight(t - 1, 0);
        }
        liveDays(trials, days);
        int most = 0;
        for (int t = 1; t < trials.size(); t++) {
            if (trials.get(t).points > trials.get(most).points) {
                most = t;
            }
        }
        return most - 1;
    }

    public int best() {
        int mostRight = -1;
        int found = -1;
        for (int s = 0; s < signs.size(); s++) {
            int right = signs.get(s).daysRight(weather);
            if (right > mostRight) {
                mostRight = right;
                found = s;
            }
        }
        return found;
    }

    public double mean() {
        if (villages.size() == 0) {
            return 0;
        }
        return (double) villages.allPoints() / villages.size();
    }

    public long digest() {
        long d = DIGEST_START;
        for (int what = 0; what <= 6; what++) {
            d = digestWith(d, count(what));
        }
        for (int t = 0; t < TABLE_DAYS; t++) {
            d = digestWith(d, weather.glassOn(t));
            d = digestWith(d, weather.rainsOn(t) ? 1 : 0);
        }
        for (int s = 0; s < signs.size(); s++) {
            for (int what = 0; what <= 3; what++) {
                d = digestWith(d, told(s, what));
            }
        }
        for (int v = 0; v < villages.size(); v++) {
            for (int what = 0; what <= 6; what++) {
                d = digestWith(d, about(v, what));
            }
            for (int s = 0; s < signs.size(); s++) {
                d = digestWith(d, weight(v, s));
            }
        }
        return d;
    }

    private static long digestWith(long d, int x) {
        return d * 31 + x;
    }

    // ---- the course of the days

    /** Lets the villages of a row live through so many days, from today on, and returns their hits. */
    private int liveDays(VillageRow row, int days) {
        int hits = 0;
        for (int behind = 0; behind < days; behind++) {
            hits += liveDay(row, day + behind);
        }
        return hits;
    }

    private int liveDay(VillageRow row, int onDay) {
        return row.liveDay(sayingsOn(onDay), weather.rainsOn(onDay));
    }

    private int[] sayingsOn(int onDay) {
        for (int s = 0; s < sayings.length && s < signs.size(); s++) {
            sayings[s] = signs.get(s).saysRain(weather, onDay) ? RAIN : DRY;
        }
        return sayings;
    }

    /** What count() tells of the villages under 3, 4 and 5, of any row and on any day. */
    private int countOver(VillageRow row, int what, int onDay) {
        switch (what) {
            case 3:
                return row.allPoints();
            case 4:
                return row.allCoins();
            default:
                return row.guessingRain(sayingsOn(onDay));
        }
    }

    // ---- what is refused

    private static void requireTableDay(int tableDay) {
        if (tableDay < 0 || tableDay >= TABLE_DAYS) {
            throw new IndexOutOfBoundsException("the day of the table is 0 to 11");
        }
    }

    private void requireSign(int sign) {
        if (sign < 0 || sign >= signs.size()) {
            throw new IndexOutOfBoundsException("there is no such sign");
        }
    }

    private static void requireTwo(int village, int other) {
        if (village == other) {
            throw new IllegalArgumentException("both villages are the same");
        }
    }

    private static void requireWhat(int what, int least, int most) {
        if (what < least || what > most) {
            throw new IndexOutOfBoundsException("there is nothing of this number to tell");
        }
    }

    private static void requireDays(int days, int most) {
        if (days < 1 || days > most) {
            throw new IllegalArgumentException("the number of days is out of range");
        }
    }

    /** The tables of 12 days; any day is looked up by its remainder, so that -1 is the day ahead of 0. */
    private static final class Weather {
        private final int[] glass = new int[TABLE_DAYS];
        private final boolean[] rain = new boolean[TABLE_DAYS];

        Weather() {
            Arrays.fill(glass, FIRST_GLASS);
        }

        int glassOn(int day) {
            return glass[Math.floorMod(day, TABLE_DAYS)];
        }

        void putGlass(int day, int height) {
            glass[Math.floorMod(day, TABLE_DAYS)] = height;
        }

        boolean rainsOn(int day) {
            return rain[Math.floorMod(day, TABLE_DAYS)];
        }

        void putRain(int day, boolean rains) {
            rain[Math.floorMod(day, TABLE_DAYS)] = rains;
        }

        int rainyDays() {
            int rainy = 0;
            for (boolean rains : rain) {
                rainy += rains ? 1 : 0;
            }
            return rainy;
        }
    }

    private static final class Sign {
        private final int kind;
        private final int number;

        Sign(int kind, int number) {
            this.kind = kind;
            this.number = number;
        }

        boolean saysRain(Weather weather, int day) {
            int glass = weather.glassOn(day);
            int glassAhead = weather.glassOn(day - 1);
            boolean rainedAhead = weather.rainsOn(day - 1);
            switch (kind) {
                case 0:
                    return glassAhead - glass >= number;
                case 1:
                    return glass < number;
                case 2:
                    return rainedAhead;
                case 3:
                    return day % WEEK_DAYS == number % WEEK_DAYS;
                case 4:
                    return !rainedAhead && glass < glassAhead;
                default:
                    return true;
            }
        }

        int daysRight(Weather weather) {
            int right = 0;
            for (int t = 0; t < TABLE_DAYS; t++) {
                if (saysRain(weather, t) == weather.rainsOn(t)) {
                    right++;
                }
            }
            return right;
        }
    }

    private static final class Village {
        private final int[] weights = new int[MOST_SIGNS];
        private int number;
        private int points;
        private int coins;
        private int rowOfHits;

        Village(int number) {
            this.number = number;
            coins = FIRST_COINS;
            Arrays.fill(weights, FIRST_WEIGHT);
        }

        /** Takes the number too, because it decides between villages of as many points and coins. */
        void becomeLike(Village other) {
            number = other.number;
            points = other.points;
            coins = other.coins;
            rowOfHits = other.rowOfHits;
            for (int s = 0; s < weights.length && s < other.weights.length; s++) {
                weights[s] = other.weights[s];
            }
        }

        int weightOf(int sign) {
            return sign >= 0 && sign < weights.length ? weights[sign] : 0;
        }

        void putWeight(int sign, int weight) {
            if (sign >= 0 && sign < weights.length) {
                weights[sign] = weight;
            }
        }

        int allWeights(int signCount) {
            int sum = 0;
            for (int s = 0; s < signCount && s < weights.length; s++) {
                sum += weights[s];
            }
            return sum;
        }

        void buyWeightsOf(Village seller) {
            coins -= PRICE_OF_SHARING;
            seller.coins += PRICE_OF_SHARING;
            for (int s = 0; s < weights.length && s < seller.weights.length; s++) {
                weights[s] = (weights[s] + seller.weights[s]) / 2;
            }
        }

        /** By how much the weights of rain are more than those of dry. */
        int leadOfRain(int[] sayings) {
            int lead = 0;
            for (int s = 0; s < sayings.length && s < weights.length; s++) {
                lead += sayings[s] * weights[s];
            }
            return lead;
        }

        boolean guessesRain(int[] sayings) {
            return leadOfRain(sayings) > 0;
        }

        /** Returns whether the day was a hit. */
        boolean liveDay(int[] sayings, boolean rains) {
            boolean hit = guessesRain(sayings) == rains;
            points += hit ? 1 : 0;
            rowOfHits = hit ? rowOfHits + 1 : 0;
            learn(sayings, rains ? RAIN : DRY);
            sellAlmanacs();
            return hit;
        }

        /** A quarter is rounded up, so that every weight but 0 gets less. */
        private void learn(int[] sayings, int truth) {
            for (int s = 0; s < weights.length && s < sayings.length; s++) {
                if (sayings[s] == truth) {
                    weights[s] = Math.min(weights[s] + 1, HIGHEST_WEIGHT);
                } else if (sayings[s] == -truth) {
                    weights[s] -= (weights[s] + 3) / 4;
                }
            }
        }

        private void sellAlmanacs() {
            if (rowOfHits >= 1) {
                coins += Math.min(rowOfHits, MOST_ALMANACS);
            } else if (coins > 0) {
                coins--;
            }
        }

        boolean isAheadOf(Village other) {
            if (points != other.points) {
                return points > other.points;
            }
            if (coins != other.coins) {
                return coins > other.coins;
            }
            return number < other.number;
        }
    }

    /** A row of villages that are made at once and taken into use one after another. */
    private static final class VillageRow {
        private final Village[] places;
        private int size;

        VillageRow(int capacity) {
            places = new Village[Math.max(capacity, 0)];
            for (int v = 0; v < places.length; v++) {
                places[v] = new Village(v);
            }
        }

        int size() {
            return size;
        }

        boolean isFull() {
            return size >= places.length;
        }

        /** Refuses a number without a village as every call that takes a village has to. */
        Village get(int v) {
            if (v < 0 || v >= size) {
                throw new IndexOutOfBoundsException("there is no such village");
            }
            return places[v];
        }

        void grow() {
            if (!isFull()) {
                size++;
            }
        }

        void clear() {
            size = 0;
        }

        void addCopy(Village original) {
            if (!isFull()) {
                places[size].becomeLike(original);
                size++;
            }
        }

        int placeOf(Village village) {
            int place = 1;
            for (int v = 0; v < size; v++) {
                if (places[v].isAheadOf(village)) {
                    place++;
                }
            }
            return place;
        }

        /** Returns how many hits the day brought. */
        int liveDay(int[] sayings, boolean rains) {
            int hits = 0;
            for (int v = 0; v < size; v++) {
                hits += places[v].liveDay(sayings, rains) ? 1 : 0;
            }
            return hits;
        }

        int allPoints() {
            int sum = 0;
            for (int v = 0; v < size; v++) {
                sum += places[v].points;
            }
            return sum;
        }

        int allCoins() {
            int sum = 0;
            for (int v = 0; v < size; v++) {
                sum += places[v].coins;
            }
            return sum;
        }

        int allWeightsOf(int sign) {
            int sum = 0;
            for (int v = 0; v < size; v++) {
                sum += places[v].weightOf(sign);
            }
            return sum;
        }

        int guessingRain(int[] sayings) {
            int guessing = 0;
            for (int v = 0; v < size; v++) {
                guessing += places[v].guessesRain(sayings) ? 1 : 0;
            }
            return guessing;
        }
    }
}
