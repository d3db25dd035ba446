/** Promises 8 to 13: says, told, weight, about, at, count. */
public final class WhatThereIsTest {
    /** Which days from the first one on the sign 0 of this kind says rain on, a letter R or d for each. */
    private static String sayings(BarometerLeague x, int sign, int first, int days) {
        StringBuilder all = new StringBuilder();
        for (int day = first; day < first + days; day++) {
            all.append(x.says(sign, day) ? 'R' : 'd');
        }
        return all.toString();
    }

    /** Glass 30 but for the days 2 to 5 and 11; rain on the days 4, 5 and 11. */
    private static BarometerLeague weather() {
        BarometerLeague x = new BarometerLeague();
        x.setGlass(2, 40);
        x.setGlass(3, 35);
        x.setGlass(4, 20);
        x.setGlass(5, 19);
        x.setGlass(11, 31);
        x.setRain(4, true);
        x.setRain(5, true);
        x.setRain(11, true);
        return x;
    }

    private static void promise8Says() {
        BarometerLeague x = weather();
        x.sign(0, 0);
        x.sign(0, 5);
        x.sign(1, 30);
        x.sign(2, 9);
        x.sign(3, 13);
        x.sign(4, 60);
        x.sign(5, 0);
        Check.equal("fallen by 0 or more", sayings(x, 0, 0, 13), "RRdRRRdRRRRdR");
        Check.equal("fallen by 5 or more", sayings(x, 1, 0, 13), "dddRRdddddddd");
        Check.equal("below 30", sayings(x, 2, 0, 13), "ddddRRddddddd");
        Check.equal("rain on the day ahead", sayings(x, 3, 0, 13), "RddddRRdddddR");
        Check.equal("remainder 6 by 7", sayings(x, 4, 0, 21), "ddddddRddddddRddddddR");
        Check.equal("no rain ahead and fallen", sayings(x, 5, 0, 13), "dddRRdddddddd");
        Check.equal("always", sayings(x, 6, 0, 13), "RRRRRRRRRRRRR");
        // 984 is the day 0 of the table; 986 and 993 leave 6 by 7.
        Check.equal("the last days, by the table", sayings(x, 1, 984, 16), "dddRRddddddd" + "dddR");
        Check.equal("the last days, by 7", sayings(x, 4, 986, 14), "RddddddRdddddd");
        Check.badArgument(x, "says(0, -1)", () -> x.says(0, -1));
        Check.badArgument(x, "says(0, 1000)", () -> x.says(0, 1000));
        Check.badIndex(x, "says(-1, 0)", () -> x.says(-1, 0));
        Check.badIndex(x, "says(7, 0)", () -> x.says(7, 0));
        Check.badIndex(x, "says(7, 1000), the index first", () -> x.says(7, 1000));
    }

    private static void promise8FallBeforeTheFirstDay() {
        BarometerLeague x = new BarometerLeague();
        x.sign(0, 60);
        x.sign(4, 0);
        x.sign(3, 0);
        x.setGlass(11, 60);
        x.setGlass(0, 0);
        Check.isTrue("a fall by just 60", x.says(0, 0));
        Check.isTrue("a fall behind a dry day", x.says(1, 0));
        x.setRain(11, true);
        Check.isTrue("a fall behind a rainy day", !x.says(1, 0));
        x.setGlass(0, 1);
        Check.isTrue("a fall by just 59", !x.says(0, 0));
        Check.isTrue("the day 7", x.says(2, 7));
        Check.isTrue("the day 12, 0 in the table", !x.says(2, 12));
        Check.isTrue("the day 994", x.says(2, 994));
    }

    private static void promise9Told() {
        BarometerLeague x = weather();
        x.sign(2, 9);
        x.sign(3, 60);
        x.sign(5, 7);
        Check.equal("kind", x.told(0, 0), 2);
        Check.equal("number", x.told(1, 1), 60);
        // It says rain on 0, 5 and 6, and it rains on 4, 5 and 11.
        Check.equal("right days of kind 2", x.told(0, 2), 8);
        // 60 leaves 4 by 7: it says rain on 4 and 11, not on 5.
        Check.equal("right days of kind 3", x.told(1, 2), 11);
        Check.equal("right days of kind 5", x.told(2, 2), 3);
        Check.equal("weights without villages", x.told(0, 3), 0);
        x.join();
        x.join();
        x.weigh(1, 0, 100);
        Check.equal("weights of two villages", x.told(0, 3), 120);
        Check.equal("weights of another sign", x.told(1, 3), 40);
        x.pass(90);
        Check.equal("right days do not hang on the day", x.told(1, 2), 11);
        Check.badIndex(x, "told(0, -1)", () -> x.told(0, -1));
        Check.badIndex(x, "told(0, 4)", () -> x.told(0, 4));
        Check.badIndex(x, "told(-1, 0)", () -> x.told(-1, 0));
        Check.badIndex(x, "told(3, 0)", () -> x.told(3, 0));
    }

    private static void promise10Weight() {
        BarometerLeague x = new BarometerLeague();
        x.join();
        Check.badIndex(x, "weight(0, 0) without signs", () -> x.weight(0, 0));
        x.sign(5, 0);
        x.sign(1, 0);
        Check.equal("weight of a sign told later", x.weight(0, 0), 20);
        x.weigh(0, 1, 100);
        Check.equal("weight(0, 1)", x.weight(0, 1), 100);
        x.pass(1);
        Check.equal("wrong: a quarter less", x.weight(0, 0), 15);
        Check.equal("right: not above 100", x.weight(0, 1), 100);
        x.sign(2, 0);
        Check.equal("weight of a sign told behind a day", x.weight(0, 2), 20);
        Check.badIndex(x, "weight(-1, 0)", () -> x.weight(-1, 0));
        Check.badIndex(x, "weight(1, 0)", () -> x.weight(1, 0));
        Check.badIndex(x, "weight(0, -1)", () -> x.weight(0, -1));
        Check.badIndex(x, "weight(0, 3)", () -> x.weight(0, 3));
    }

    private static void promise11About() {
        BarometerLeague x = new BarometerLeague();
        x.join();
        x.join();
        x.sign(5, 0);
        x.sign(1, 0);
        x.sign(1, 0);
        x.weigh(0, 0, 41);
        x.weigh(1, 0, 40);
        x.setRain(0, true);
        Check.equal("weights, added", x.about(0, 3), 81);
        Check.equal("rain by 41 to 40", x.about(0, 5), 1);
        Check.equal("more of rain", x.about(0, 6), 1);
        Check.equal("dry by 40 to 40", x.about(1, 5), 0);
        Check.equal("as many of both", x.about(1, 6), 0);
        x.weigh(1, 0, 0);
        Check.equal("less of rain", x.about(1, 6), -40);
        x.pass(1);
        Check.equal("points of the one that was right", x.about(0, 0), 1);
        Check.equal("its coins", x.about(0, 1), 11);
        Check.equal("its row", x.about(0, 2), 1);
        Check.equal("its place", x.about(0, 4), 1);
        Check.equal("points of the one that was wrong", x.about(1, 0), 0);
        Check.equal("its coins", x.about(1, 1), 9);
        Check.equal("its row", x.about(1, 2), 0);
        Check.equal("its place", x.about(1, 4), 2);
        Check.badIndex(x, "about(0, -1)", () -> x.about(0, -1));
        Check.badIndex(x, "about(0, 7)", () -> x.about(0, 7));
        Check.badIndex(x, "about(-1, 0)", () -> x.about(-1, 0));
        Check.badIndex(x, "about(2, 0)", () -> x.about(2, 0));
    }

    private static void promise11GuessHangsOnTheDay() {
        BarometerLeague x = new BarometerLeague();
        x.join();
        x.sign(3, 2);
        Check.equal("guess of the day 0", x.about(0, 5), 0);
        x.pass(9);
        Check.equal("guess of the day 9", x.about(0, 5), 1);
        Check.equal("villages that guess rain on it", x.count(5), 1);
        Check.isTrue("more of rain on it", x.about(0, 6) > 0);
    }

    private static String league(BarometerLeague x) {
        StringBuilder all = new StringBuilder();
        for (int place = 1; place <= x.count(2); place++) {
            int village = x.at(place);
            all.append(village);
            Check.equal("place of the village " + village, x.about(village, 4), place);
        }
        return all.toString();
    }

    private static void promise12At() {
        BarometerLeague x = new BarometerLeague();
        Check.badIndex(x, "at(1) without villages", () -> x.at(1));
        x.sign(5, 0);
        x.join();
        x.join();
        x.join();
        x.join();
        Check.equal("by number", league(x), "0123");
        x.share(1, 2);
        Check.equal("by coins", league(x), "2031");
        x.weigh(0, 0, 0);
        x.weigh(2, 0, 0);
        x.setRain(0, true);
        x.pass(1);
        // 1 and 3 were right; 3 has more coins of the two, as 2 has of the others.
        Check.equal("points go ahead of coins", league(x), "3120");
        Check.badIndex(x, "at(0)", () -> x.at(0));
        Check.badIndex(x, "at(-1)", () -> x.at(-1));
        Check.badIndex(x, "at(5)", () -> x.at(5));
        Check.badIndex(x, "at(MAX)", () -> x.at(Integer.MAX_VALUE));
    }

    private static void promise13Count() {
        BarometerLeague x = new BarometerLeague();
        x.sign(5, 0);
        x.sign(1, 0);
        x.join();
        x.join();
        x.join();
        x.weigh(0, 0, 60);
        x.weigh(1, 0, 60);
        Check.equal("villages that guess rain", x.count(5), 2);
        x.setRain(0, true);
        x.setRain(3, true);
        x.pass(1);
        Check.equal("day", x.count(0), 1);
        Check.equal("signs", x.count(1), 2);
        Check.equal("villages", x.count(2), 3);
        Check.equal("all points", x.count(3), 2);
        Check.equal("all coins", x.count(4), 31);
        Check.equal("rainy days", x.count(6), 2);
        Check.badIndex(x, "count(-1)", () -> x.count(-1));
        Check.badIndex(x, "count(7)", () -> x.count(7));
    }

    public static void main(String[] args) {
        promise8Says();
        promise8FallBeforeTheFirstDay();
        promise9Told();
        promise10Weight();
        promise11About();
        promise11GuessHangsOnTheDay();
        promise12At();
        promise13Count();
        Check.finish();
    }
}
