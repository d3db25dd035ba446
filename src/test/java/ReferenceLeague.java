import java.util.ArrayList;
import java.util.List;

/**
 * The document once more, told in another way than the program tells it: a league is copied whole for
 * every question of what would be, and every place in the league is found by sorting.
 */
final class ReferenceLeague {
    static final class Folk {
        int number;
        int points = 0;
        int coins = 10;
        int row = 0;
        int[] weights = {20, 20, 20, 20, 20, 20, 20, 20};
    }

    int day = 0;
    int[] glass = {30, 30, 30, 30, 30, 30, 30, 30, 30, 30, 30, 30};
    boolean[] rain = new boolean[12];
    List<int[]> signs = new ArrayList<>();
    List<Folk> folks = new ArrayList<>();

    ReferenceLeague copy() {
        ReferenceLeague c = new ReferenceLeague();
        c.day = day;
        c.glass = glass.clone();
        c.rain = rain.clone();
        c.signs = new ArrayList<>(signs);
        for (Folk f : folks) {
            Folk g = new Folk();
            g.number = f.number;
            g.points = f.points;
            g.coins = f.coins;
            g.row = f.row;
            g.weights = f.weights.clone();
            c.folks.add(g);
        }
        return c;
    }

    private static void index(boolean good) {
        if (!good) {
            throw new IndexOutOfBoundsException();
        }
    }

    private static void argument(boolean good) {
        if (!good) {
            throw new IllegalArgumentException();
        }
    }

    private static void state(boolean good) {
        if (!good) {
            throw new IllegalStateException();
        }
    }

    private static boolean within(int x, int least, int most) {
        return least <= x && x <= most;
    }

    private boolean isSign(int s) {
        return within(s, 0, signs.size() - 1);
    }

    private boolean isFolk(int v) {
        return within(v, 0, folks.size() - 1);
    }

    int setGlass(int d, int height) {
        index(within(d, 0, 11));
        argument(within(height, 0, 60));
        int before = glass[d];
        glass[d] = height;
        return before;
    }

    boolean setRain(int d, boolean rains) {
        index(within(d, 0, 11));
        boolean before = rain[d];
        rain[d] = rains;
        return before;
    }

    int sign(int kind, int number) {
        argument(within(kind, 0, 5) && within(number, 0, 60));
        state(signs.size() < 8);
        signs.add(new int[] {kind, number});
        return signs.size() - 1;
    }

    int join() {
        state(folks.size() < 6);
        Folk f = new Folk();
        f.number = folks.size();
        folks.add(f);
        return f.number;
    }

    int weigh(int v, int s, int weight) {
        index(isFolk(v) && isSign(s));
        argument(within(weight, 0, 100));
        int before = folks.get(v).weights[s];
        folks.get(v).weights[s] = weight;
        return before;
    }

    int share(int v, int from) {
        index(isFolk(v) && isFolk(from));
        argument(v != from);
        state(folks.get(v).coins >= 5);
        folks.get(v).coins -= 5;
        folks.get(from).coins += 5;
        for (int s = 0; s < 8; s++) {
            folks.get(v).weights[s] = (folks.get(v).weights[s] + folks.get(from).weights[s]) / 2;
        }
        return folks.get(v).coins;
    }

    private boolean rainBy(int s, int d) {
        int kind = signs.get(s)[0];
        int number = signs.get(s)[1];
        int here = d % 12;
        int ahead = here == 0 ? 11 : here - 1;
        if (kind == 0) {
            return glass[here] <= glass[ahead] - number;
        } else if (kind == 1) {
            return glass[here] < number;
        } else if (kind == 2) {
            return rain[ahead];
        } else if (kind == 3) {
            return (d - number) % 7 == 0;
        } else if (kind == 4) {
            return !(rain[ahead] || glass[here] >= glass[ahead]);
        }
        return true;
    }

    boolean says(int s, int d) {
        index(isSign(s));
        argument(within(d, 0, 999));
        return rainBy(s, d);
    }

    private int right(int s) {
        int right = 0;
        for (int d = 0; d < 12; d++) {
            right += rainBy(s, d) == rain[d] ? 1 : 0;
        }
        return right;
    }

    int told(int s, int what) {
        index(isSign(s) && within(what, 0, 3));
        if (what < 2) {
            return signs.get(s)[what];
        }
        return what == 2 ? right(s) : folks.stream().mapToInt(f -> f.weights[s]).sum();
    }

    int weight(int v, int s) {
        index(isFolk(v) && isSign(s));
        return folks.get(v).weights[s];
    }

    private int rainLessDry(Folk f) {
        int rainy = 0;
        int dry = 0;
        for (int s = 0; s < signs.size(); s++) {
            if (rainBy(s, day)) {
                rainy += f.weights[s];
            } else {
                dry += f.weights[s];
            }
        }
        return rainy - dry;
    }

    private List<Folk> sorted() {
        List<Folk> all = new ArrayList<>(folks);
        all.sort((f, g) -> f.points != g.points ? g.points - f.points
                : f.coins != g.coins ? g.coins - f.coins : f.number - g.number);
        return all;
    }

    private int placeOf(int v) {
        return sorted().indexOf(folks.get(v)) + 1;
    }

    int about(int v, int what) {
        index(isFolk(v) && within(what, 0, 6));
        Folk f = folks.get(v);
        int weights = 0;
        for (int s = 0; s < signs.size(); s++) {
            weights += f.weights[s];
        }
        int more = rainLessDry(f);
        return new int[] {f.points, f.coins, f.row, weights, placeOf(v), more > 0 ? 1 : 0, more}[what];
    }

    int at(int place) {
        index(within(place, 1, folks.size()));
        return sorted().get(place - 1).number;
    }

    int count(int what) {
        index(within(what, 0, 6));
        int rainy = 0;
        for (boolean r : rain) {
            rainy += r ? 1 : 0;
        }
        return new int[] {day, signs.size(), folks.size(), folks.stream().mapToInt(f -> f.points).sum(),
            folks.stream().mapToInt(f -> f.coins).sum(),
            (int) folks.stream().filter(f -> rainLessDry(f) > 0).count(), rainy}[what];
    }

    private int oneDay() {
        int hits = 0;
        boolean rains = rain[day % 12];
        for (Folk f : folks) {
            boolean right = rainLessDry(f) > 0 == rains;
            f.row = right ? f.row + 1 : 0;
            f.points += right ? 1 : 0;
            hits += right ? 1 : 0;
            for (int s = 0; s < signs.size(); s++) {
                int w = f.weights[s];
                // A quarter rounded up less is three quarters cut.
                f.weights[s] = rainBy(s, day) == rains ? (w == 100 ? 100 : w + 1) : w * 3 / 4;
            }
            if (f.row > 0) {
                f.coins += f.row < 5 ? f.row : 5;
            } else if (f.coins > 0) {
                f.coins -= 1;
            }
        }
        day++;
        return hits;
    }

    int pass(int days) {
        argument(within(days, 1, 90));
        int hits = 0;
        for (int i = 0; i < days; i++) {
            hits += oneDay();
        }
        return hits;
    }

    int foresee(int days, int what) {
        argument(within(days, 1, 90));
        index(within(what, 3, 5));
        ReferenceLeague c = copy();
        c.pass(days);
        return c.count(what);
    }

    int overtakes(int a, int b) {
        index(isFolk(a) && isFolk(b));
        argument(a != b);
        return overtakesWithin(a, b, 120);
    }

    int overtakesWithin(int a, int b, int most) {
        ReferenceLeague c = copy();
        for (int behind = 0; behind <= most; behind++) {
            if (c.placeOf(a) < c.placeOf(b)) {
                return behind;
            }
            c.pass(1);
        }
        return -1;
    }

    private int pointsBehind(int v, int without, int days) {
        ReferenceLeague c = copy();
        if (without >= 0) {
            c.weigh(v, without, 0);
        }
        c.pass(days);
        return c.about(v, 0);
    }

    int advise(int v, int days) {
        index(isFolk(v));
        argument(within(days, 1, 60));
        int found = -1;
        for (int s = signs.size() - 1; s >= 0; s--) {
            int points = pointsBehind(v, s, days);
            if (points > pointsBehind(v, -1, days) && (found < 0 || points >= pointsBehind(v, found, days))) {
                found = s;
            }
        }
        return found;
    }

    int best() {
        int found = -1;
        for (int s = signs.size() - 1; s >= 0; s--) {
            if (found < 0 || right(s) >= right(found)) {
                found = s;
            }
        }
        return found;
    }

    double mean() {
        return folks.isEmpty() ? 0.0 : count(3) / (double) folks.size();
    }

    long digest() {
        List<Integer> xs = new ArrayList<>();
        for (int what = 0; what < 7; what++) {
            xs.add(count(what));
        }
        for (int d = 0; d < 12; d++) {
            xs.add(glass[d]);
            xs.add(rain[d] ? 1 : 0);
        }
        for (int s = 0; s < signs.size(); s++) {
            for (int what = 0; what < 4; what++) {
                xs.add(told(s, what));
            }
        }
        for (int v = 0; v < folks.size(); v++) {
            for (int what = 0; what < 7; what++) {
                xs.add(about(v, what));
            }
            for (int s = 0; s < signs.size(); s++) {
                xs.add(weight(v, s));
            }
        }
        long d = 1459;
        for (int x : xs) {
            d = d * 31 + x;
        }
        return d;
    }
}
