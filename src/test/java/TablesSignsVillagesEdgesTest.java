/** Promises 1 to 7: a test for each sentence that names a boundary case. */
public final class TablesSignsVillagesEdgesTest {
    private static final int MIN = Integer.MIN_VALUE;
    private static final int MAX = Integer.MAX_VALUE;

    private static void newObject() {
        Check.sentence("Creates a league without signs and villages, on the day 0");
        BarometerLeague x = new BarometerLeague();
        Check.equal("the day", x.count(0), 0);
        Check.equal("signs", x.count(1), 0);
        Check.equal("villages", x.count(2), 0);
        Check.equal("best()", x.best(), -1);
        Check.equal("mean()", x.mean(), 0.0);
        Check.badIndex(x, "says(0, 0)", () -> x.says(0, 0));
        Check.badIndex(x, "told(0, 0)", () -> x.told(0, 0));
        Check.badIndex(x, "about(0, 0)", () -> x.about(0, 0));
        Check.badIndex(x, "at(1)", () -> x.at(1));
        Check.badIndex(x, "weight(0, 0)", () -> x.weight(0, 0));
        Check.badIndex(x, "share(0, 1)", () -> x.share(0, 1));
        Check.badIndex(x, "overtakes(0, 1)", () -> x.overtakes(0, 1));
        Check.badIndex(x, "advise(0, 1)", () -> x.advise(0, 1));
    }

    private static void newObjectBesideAnother() {
        Check.sentence("Creates a league");
        BarometerLeague x = Leagues.full();
        BarometerLeague y = new BarometerLeague();
        long before = x.digest();
        Check.equal("villages of the new one", y.count(2), 0);
        Check.equal("rainy days of the new one", y.count(6), 0);
        y.join();
        y.sign(5, 0);
        y.setGlass(0, 60);
        y.weigh(0, 0, 100);
        y.pass(3);
        Check.equal("digest() of the old one", x.digest(), before);
        Check.equal("the day of the new one", y.count(0), 3);
    }

    private static void setGlassDays() {
        Check.sentence("day: a day of the table, 0 to 11");
        BarometerLeague x = new BarometerLeague();
        Check.equal("setGlass(0, 1)", x.setGlass(0, 1), 30);
        Check.equal("setGlass(11, 2)", x.setGlass(11, 2), 30);
        Check.equal("setGlass(0, 3)", x.setGlass(0, 3), 1);
        Check.equal("setGlass(11, 4)", x.setGlass(11, 4), 2);
        Check.sentence("Throws IndexOutOfBoundsException if day is not 0 to 11");
        for (int day : new int[] {-1, 12, -12, 24, MIN, MAX}) {
            Check.badIndex(x, "setGlass(" + day + ", 30)", () -> x.setGlass(day, 30));
        }
    }

    private static void setGlassHeights() {
        Check.sentence("glass: how high the glass stands on it from now on");
        BarometerLeague x = Leagues.of(0, 1, 1, 1, 60);
        Check.equal("setGlass(5, 0)", x.setGlass(5, 0), 30);
        Check.isTrue("0 stands below 1", x.says(0, 5));
        Check.equal("setGlass(5, 60)", x.setGlass(5, 60), 0);
        Check.isTrue("60 does not stand below 60", !x.says(1, 5));
        Check.equal("setGlass(5, 60) again", x.setGlass(5, 60), 60);
        Check.sentence("Throws IllegalArgumentException if glass is not 0 to 60");
        for (int glass : new int[] {-1, 61, MIN, MAX}) {
            Check.badArgument(x, "setGlass(0, " + glass + ")", () -> x.setGlass(0, glass));
            Check.badArgument(x, "setGlass(11, " + glass + ")", () -> x.setGlass(11, glass));
        }
        Check.equal("the glass on 5 is as it was", x.setGlass(5, 1), 60);
    }

    private static void setGlassBothWrong() {
        Check.sentence("setGlass throws IndexOutOfBoundsException, IllegalArgumentException: the first of both");
        BarometerLeague x = new BarometerLeague();
        Check.badIndex(x, "setGlass(-1, -1)", () -> x.setGlass(-1, -1));
        Check.badIndex(x, "setGlass(12, 61)", () -> x.setGlass(12, 61));
        Check.badIndex(x, "setGlass(MAX, MIN)", () -> x.setGlass(MAX, MIN));
    }

    private static void setRainDays() {
        Check.sentence("setRain: a day of the table, 0 to 11; returns whether it did before");
        BarometerLeague x = new BarometerLeague();
        for (int day = 0; day <= 11; day += 11) {
            int on = day;
            Check.equal("no rain on " + on, x.setRain(on, true), false);
            Check.equal("rain on " + on, x.setRain(on, true), true);
            Check.equal("rain on " + on + ", no more", x.setRain(on, false), true);
            Check.equal("no rain on " + on + " again", x.setRain(on, false), false);
            x.setRain(on, true);
        }
        Check.equal("rainy days", x.count(6), 2);
        Check.sentence("Throws IndexOutOfBoundsException if day is not 0 to 11");
        for (int day : new int[] {-1, 12, -12, 24, MIN, MAX}) {
            Check.badIndex(x, "setRain(" + day + ", true)", () -> x.setRain(day, true));
            Check.badIndex(x, "setRain(" + day + ", false)", () -> x.setRain(day, false));
        }
    }

    private static void signKinds() {
        Check.sentence("sign throws IllegalArgumentException if kind is not 0 to 5");
        BarometerLeague x = new BarometerLeague();
        Check.equal("the least kind", x.sign(0, 30), 0);
        Check.equal("the greatest kind", x.sign(5, 30), 1);
        Check.equal("told of the least", x.told(0, 0), 0);
        Check.equal("told of the greatest", x.told(1, 0), 5);
        for (int kind : new int[] {-1, 6, MIN, MAX}) {
            Check.badArgument(x, "sign(" + kind + ", 30)", () -> x.sign(kind, 30));
        }
        Check.equal("the next one is 2", x.sign(0, 0), 2);
    }

    private static void signNumbers() {
        Check.sentence("or number is not 0 to 60");
        BarometerLeague x = new BarometerLeague();
        for (int kind = 0; kind <= 2; kind++) {
            Check.equal("number 0", x.sign(kind, 0), 2 * kind);
            Check.equal("number 60", x.sign(kind, 60), 2 * kind + 1);
            Check.equal("told of 0", x.told(2 * kind, 1), 0);
            Check.equal("told of 60", x.told(2 * kind + 1, 1), 60);
        }
        for (int kind = 0; kind <= 5; kind++) {
            int of = kind;
            for (int number : new int[] {-1, 61, MIN, MAX}) {
                Check.badArgument(x, "sign(" + of + ", " + number + ")", () -> x.sign(of, number));
            }
        }
    }

    private static void signsUpTo8() {
        Check.sentence("Throws IllegalStateException if there are 8");
        BarometerLeague x = Leagues.of(1, 5, 0, 5, 0, 5, 0, 5, 0, 5, 0, 5, 0, 5, 0);
        Check.equal("the eighth", x.sign(4, 33), 7);
        Check.badState(x, "the ninth", () -> x.sign(0, 0));
        Check.badState(x, "the ninth, again", () -> x.sign(5, 60));
        Check.equal("signs", x.count(1), 8);
        Check.equal("the kind of the last", x.told(7, 0), 4);
        Check.sentence("sign throws IllegalArgumentException, IllegalStateException: the first of both");
        Check.badArgument(x, "sign(-1, 0)", () -> x.sign(-1, 0));
        Check.badArgument(x, "sign(6, 0)", () -> x.sign(6, 0));
        Check.badArgument(x, "sign(0, -1)", () -> x.sign(0, -1));
        Check.badArgument(x, "sign(0, 61)", () -> x.sign(0, 61));
    }

    private static void joinUpTo6() {
        Check.sentence("Throws IllegalStateException if there are 6");
        BarometerLeague x = Leagues.of(5, 5, 0);
        Check.equal("the sixth", x.join(), 5);
        Check.badState(x, "the seventh", () -> x.join());
        x.pass(1);
        Check.badState(x, "the seventh, later", () -> x.join());
        Check.equal("villages", x.count(2), 6);
    }

    private static void weighVillagesAndSigns() {
        Check.sentence("weigh throws IndexOutOfBoundsException if there is no such village or sign");
        BarometerLeague none = new BarometerLeague();
        Check.badIndex(none, "without both", () -> none.weigh(0, 0, 1));
        none.join();
        Check.badIndex(none, "without a sign", () -> none.weigh(0, 0, 1));
        BarometerLeague noVillage = Leagues.of(0, 5, 0);
        Check.badIndex(noVillage, "without a village", () -> noVillage.weigh(0, 0, 1));
        BarometerLeague x = Leagues.of(3, 5, 0, 5, 0);
        for (int v : new int[] {-1, 3, 5, 6, MIN, MAX}) {
            Check.badIndex(x, "weigh(" + v + ", 0, 1)", () -> x.weigh(v, 0, 1));
        }
        for (int s : new int[] {-1, 2, 7, 8, MIN, MAX}) {
            Check.badIndex(x, "weigh(0, " + s + ", 1)", () -> x.weigh(0, s, 1));
        }
        Check.equal("the weight of a sign told later is as it was", x.weight(0, x.sign(5, 0)), 20);
        BarometerLeague full = Leagues.full();
        full.weigh(5, 7, 1);
        Check.equal("the last village and the last sign", full.weigh(5, 7, 99), 1);
        Check.badIndex(full, "weigh(6, 7, 1)", () -> full.weigh(6, 7, 1));
        Check.badIndex(full, "weigh(5, 8, 1)", () -> full.weigh(5, 8, 1));
    }

    private static void weighWeights() {
        Check.sentence("weigh throws IllegalArgumentException if weight is not 0 to 100");
        BarometerLeague x = Leagues.of(1, 5, 0);
        Check.equal("100", x.weigh(0, 0, 100), 20);
        Check.equal("0", x.weigh(0, 0, 0), 100);
        Check.equal("0 again", x.weigh(0, 0, 0), 0);
        for (int weight : new int[] {-1, 101, MIN, MAX}) {
            Check.badArgument(x, "weigh(0, 0, " + weight + ")", () -> x.weigh(0, 0, weight));
        }
        Check.sentence("weigh throws IndexOutOfBoundsException, IllegalArgumentException: the first of both");
        Check.badIndex(x, "weigh(1, 0, 101)", () -> x.weigh(1, 0, 101));
        Check.badIndex(x, "weigh(-1, 0, -1)", () -> x.weigh(-1, 0, -1));
        Check.badIndex(x, "weigh(0, 1, 101)", () -> x.weigh(0, 1, 101));
        Check.badIndex(x, "weigh(0, -1, -1)", () -> x.weigh(0, -1, -1));
    }

    private static void sharePrice() {
        Check.sentence("for 5 coins, which that one gets; throws IllegalStateException if it has fewer than 5 coins");
        BarometerLeague x = Leagues.of(3, 5, 0);
        Check.equal("of 10 coins 5 are left", x.share(0, 1), 5);
        Check.equal("the other one's coins", x.about(1, 1), 15);
        Check.equal("of 5 coins none is left", x.share(0, 1), 0);
        Check.equal("the other one's coins", x.about(1, 1), 20);
        Check.badState(x, "without a coin", () -> x.share(0, 1));
        Check.equal("the third one's coins", x.about(2, 1), 10);
        Check.equal("all coins", x.count(4), 30);
        BarometerLeague y = Leagues.of(2);
        Leagues.rainOnEachDay(y);
        y.pass(5);
        Check.equal("coins behind 5 misses", y.about(0, 1), 5);
        y.pass(1);
        Check.badState(y, "with 4 coins", () -> y.share(0, 1));
        y.setRain(6, false);
        y.pass(1);
        Check.equal("of 5 coins none is left", y.share(0, 1), 0);
    }

    private static void shareOfAPoorOne() {
        Check.sentence("which that one gets");
        BarometerLeague x = Leagues.of(2);
        x.share(0, 1);
        x.share(0, 1);
        Check.equal("buying of one without a coin", x.share(1, 0), 15);
        Check.equal("its coins then", x.about(0, 1), 5);
    }

    private static void shareMean() {
        Check.sentence("each of its weights becomes the mean (cut) of both; those of the other one stay");
        int[][] cases = {{0, 0, 0}, {0, 1, 0}, {1, 0, 0}, {1, 1, 1}, {1, 2, 1}, {0, 100, 50}, {100, 0, 50},
            {99, 100, 99}, {100, 99, 99}};
        BarometerLeague x = Leagues.of(2, 0, 0, 1, 0, 2, 0, 3, 0, 4, 0, 5, 0, 5, 0, 5, 0);
        for (int from = 0; from < 2; from++) {
            for (int[] c : cases) {
                BarometerLeague y = Leagues.of(2, 5, 0);
                int village = 1 - from;
                y.weigh(village, 0, c[0]);
                y.weigh(from, 0, c[1]);
                y.share(village, from);
                Check.equal("the mean of " + c[0] + " and " + c[1], y.weight(village, 0), c[2]);
                Check.equal("the weight of the other one", y.weight(from, 0), c[1]);
            }
        }
        x.weigh(0, 0, 100);
        x.weigh(0, 7, 0);
        x.share(1, 0);
        Check.equal("the first of 8 signs", x.weight(1, 0), 60);
        Check.equal("the last of 8 signs", x.weight(1, 7), 10);
        Check.equal("one between", x.weight(1, 3), 20);
    }

    private static void shareVillages() {
        Check.sentence("share throws IndexOutOfBoundsException if there is no such village");
        BarometerLeague x = Leagues.of(3, 5, 0);
        for (int v : new int[] {-1, 3, 5, 6, MIN, MAX}) {
            Check.badIndex(x, "share(" + v + ", 0)", () -> x.share(v, 0));
            Check.badIndex(x, "share(0, " + v + ")", () -> x.share(0, v));
        }
        Check.sentence("share throws IllegalArgumentException if both are the same");
        for (int v = 0; v < 3; v++) {
            int same = v;
            Check.badArgument(x, "share(" + v + ", " + v + ")", () -> x.share(same, same));
        }
        Check.equal("share(0, 2)", x.share(0, 2), 5);
        Check.equal("share(2, 0)", x.share(2, 0), 10);
    }

    private static void shareFirstNamed() {
        Check.sentence("share throws IndexOutOfBoundsException, IllegalArgumentException, IllegalStateException: the first");
        BarometerLeague x = Leagues.of(2);
        x.share(0, 1);
        x.share(0, 1);
        Check.badIndex(x, "share(2, 2)", () -> x.share(2, 2));
        Check.badIndex(x, "share(-1, -1)", () -> x.share(-1, -1));
        Check.badIndex(x, "share(0, 2), without a coin", () -> x.share(0, 2));
        Check.badIndex(x, "share(0, -1), without a coin", () -> x.share(0, -1));
        Check.badArgument(x, "share(0, 0), without a coin", () -> x.share(0, 0));
        Check.badState(x, "share(0, 1), without a coin", () -> x.share(0, 1));
    }

    public static void main(String[] args) {
        newObject();
        newObjectBesideAnother();
        setGlassDays();
        setGlassHeights();
        setGlassBothWrong();
        setRainDays();
        signKinds();
        signNumbers();
        signsUpTo8();
        joinUpTo6();
        weighVillagesAndSigns();
        weighWeights();
        sharePrice();
        shareOfAPoorOne();
        shareMean();
        shareVillages();
        shareFirstNamed();
        Check.finish();
    }
}
