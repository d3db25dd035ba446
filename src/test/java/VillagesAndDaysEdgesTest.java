/** 'Terms': a test for each sentence that names a boundary case, of the villages, the course of a day and the league. */
public final class VillagesAndDaysEdgesTest {
    private static void atMostEightSigns() {
        Check.sentence("At most 8 can be told in all, numbered from 0");
        BarometerLeague x = new BarometerLeague();
        for (int s = 0; s < 8; s++) {
            Check.equal("the sign told " + s + " ahead of it", x.sign(5, s), s);
        }
        Check.badState(x, "the sign told behind 8", () -> x.sign(5, 8));
        Check.equal("the number of the first", x.told(0, 1), 0);
        Check.equal("the number of the last", x.told(7, 1), 7);
        Check.badIndex(x, "told(8, 1)", () -> x.told(8, 1));
    }

    private static void atMostSixVillages() {
        Check.sentence("At most 6 can join in all, numbered likewise");
        BarometerLeague x = new BarometerLeague();
        for (int v = 0; v < 6; v++) {
            Check.equal("the village behind " + v, x.join(), v);
        }
        Check.badState(x, "the village behind 6", () -> x.join());
        Check.equal("coins of the last", x.about(5, 1), 10);
        Check.badIndex(x, "about(6, 1)", () -> x.about(6, 1));
    }

    private static void weightAtFirst() {
        Check.sentence("a weight for each sign, 0 to 100 (20, at first, ..)");
        BarometerLeague x = Leagues.of(1, 5, 0, 1, 0, 2, 0, 3, 0, 4, 0, 5, 0, 1, 0, 2, 0);
        x.pass(90);
        x.weigh(0, 7, 100);
        int later = x.join();
        for (int s = 0; s < 8; s++) {
            Check.equal("the weight of the sign " + s + " of a village that joins later", x.weight(later, s), 20);
        }
    }

    private static void weightOfSignsToldLater() {
        Check.sentence("also for signs that are told later");
        BarometerLeague x = Leagues.of(2);
        x.pass(90);
        x.share(0, 1);
        x.sign(5, 0);
        x.weigh(0, 0, 100);
        x.weigh(1, 0, 0);
        x.share(1, 0);
        x.pass(90);
        for (int s = 1; s < 8; s++) {
            Check.equal("one more sign", x.sign(1, 0), s);
            Check.equal("its weight for 0", x.weight(0, s), 20);
            Check.equal("its weight for 1", x.weight(1, s), 20);
            Check.equal("its weights added", x.told(s, 3), 40);
        }
    }

    private static void villageAtFirst() {
        Check.sentence("points, 0 at first, coins, 10 at first, and its hits of the latest days");
        BarometerLeague x = new BarometerLeague();
        for (int v = 0; v < 6; v++) {
            x.join();
            Check.equal("points of the village " + v, x.about(v, 0), 0);
            Check.equal("coins of the village " + v, x.about(v, 1), 10);
            Check.equal("row of hits of the village " + v, x.about(v, 2), 0);
            x.pass(2);
        }
    }

    private static void guess(int rain, int dry, boolean due) {
        BarometerLeague x = Leagues.of(1, 5, 0, 1, 0);
        x.weigh(0, 0, rain);
        x.weigh(0, 1, dry);
        Check.equal("guess by " + rain + " for rain, " + dry + " for dry", x.about(0, 5), due ? 1 : 0);
        Check.equal("villages that guess rain", x.count(5), due ? 1 : 0);
        Check.equal("more for rain than for dry", x.about(0, 6), rain - dry);
        Check.equal("hits of a dry day", x.foresee(1, 3), due ? 0 : 1);
        x.setRain(0, true);
        Check.equal("hits of a rainy day", x.foresee(1, 3), due ? 1 : 0);
        Check.equal("hits of the rainy day", x.pass(1), due ? 1 : 0);
    }

    private static void guessRainIfMore() {
        Check.sentence("rain, if the weights of the signs that say rain are more together than .. dry");
        guess(1, 0, true);
        guess(21, 20, true);
        guess(100, 99, true);
        guess(100, 0, true);
    }

    private static void guessDryOtherwise() {
        Check.sentence("otherwise dry");
        guess(0, 0, false);
        guess(1, 1, false);
        guess(20, 20, false);
        guess(100, 100, false);
        guess(20, 21, false);
        guess(0, 1, false);
        guess(0, 100, false);
    }

    private static void guessWithoutSigns() {
        Check.sentence("Guess of a village on a day: .. otherwise dry (without any sign)");
        BarometerLeague x = Leagues.of(1);
        Check.equal("guess", x.about(0, 5), 0);
        Check.equal("more for rain than for dry", x.about(0, 6), 0);
        Check.equal("a hit on a dry day", x.pass(1), 1);
        Leagues.rainOnEachDay(x);
        Check.equal("none on a rainy day", x.pass(1), 0);
    }

    private static void guessByTheSignsThereAre() {
        Check.sentence("the weights of the signs that say rain .. those of the ones that say dry (of the signs there are)");
        BarometerLeague x = Leagues.of(1, 5, 0);
        x.weigh(0, 0, 1);
        Check.equal("1 for rain against none", x.about(0, 6), 1);
        Leagues.rainOnEachDay(x);
        Check.equal("a hit", x.pass(1), 1);
    }

    private static void guessByAllWeightsTogether() {
        Check.sentence("more together");
        BarometerLeague x = Leagues.of(1, 5, 0, 1, 0, 1, 0, 1, 0, 1, 0);
        x.weigh(0, 0, 100);
        for (int s = 1; s <= 4; s++) {
            x.weigh(0, s, 25);
        }
        Check.equal("100 against four times 25", x.about(0, 5), 0);
        x.weigh(0, 4, 24);
        Check.equal("100 against 99", x.about(0, 5), 1);
        x.weigh(0, 4, 26);
        Check.equal("100 against 101", x.about(0, 5), 0);
    }

    private static void hitAndMiss() {
        Check.sentence("it has 1 point more, and its row of hits is 1 longer; otherwise its row of hits is 0");
        BarometerLeague x = Leagues.of(1);
        Leagues.rainOn(x, 0, 3, 4, 7);
        int[] rows = {0, 1, 2, 0, 0, 1, 2, 0, 1, 2, 3, 4};
        int[] points = {0, 1, 2, 2, 2, 3, 4, 4, 5, 6, 7, 8};
        for (int day = 0; day < 12; day++) {
            x.pass(1);
            Check.equal("row of hits behind the day " + day, x.about(0, 2), rows[day]);
            Check.equal("points behind the day " + day, x.about(0, 0), points[day]);
        }
    }

    private static void guessAheadOfLearning() {
        Check.sentence("1. Each village guesses the weather of the day .. 2. Weights, of each village");
        BarometerLeague x = Leagues.of(1, 5, 0, 1, 0);
        Leagues.rainOnEachDay(x);
        // By 20 to 20 it guesses dry, and only behind the day it weighs 21 to 15.
        Check.equal("hits of the first day", x.pass(1), 0);
        Check.equal("the weight of the sign that was right", x.weight(0, 0), 21);
        Check.equal("the weight of the one that was wrong", x.weight(0, 1), 15);
        Check.equal("hits of the second day", x.pass(1), 1);
    }

    private static void learn(int before, int right, int wrong) {
        BarometerLeague x = Leagues.of(2, 5, 0, 1, 0);
        for (int s = 0; s < 2; s++) {
            x.weigh(0, s, before);
            x.weigh(1, s, before);
        }
        x.pass(1);
        for (int v = 0; v < 2; v++) {
            Check.equal(before + " of the sign that was right", x.weight(v, 1), right);
            Check.equal(before + " of the sign that was wrong", x.weight(v, 0), wrong);
        }
        x.setRain(1, true);
        x.weigh(0, 0, before);
        x.weigh(0, 1, before);
        x.pass(1);
        Check.equal(before + " of the sign that was right, rain", x.weight(0, 0), right);
        Check.equal(before + " of the sign that was wrong, rain", x.weight(0, 1), wrong);
    }

    private static void rightWeighsOneMore() {
        Check.sentence("a sign that was right weighs 1 more (at most 100)");
        learn(0, 1, 0);
        learn(98, 99, 73);
        learn(99, 100, 74);
        learn(100, 100, 75);
        BarometerLeague x = Leagues.of(1, 1, 0);
        x.pass(80);
        Check.equal("the weight behind 80 right days", x.weight(0, 0), 100);
        x.pass(1);
        Check.equal("the weight behind 81", x.weight(0, 0), 100);
    }

    private static void wrongWeighsAQuarterLess() {
        Check.sentence("one that was wrong a quarter (rounded up) less");
        for (int fours = 0; fours < 25; fours++) {
            int weight = fours * 4;
            learn(weight + 1, weight + 2, weight - fours);
            learn(weight + 2, weight + 3, weight + 1 - fours);
            learn(weight + 3, weight + 4, weight + 2 - fours);
            learn(weight + 4, Math.min(weight + 5, 100), weight + 3 - fours);
        }
    }

    private static void zeroStaysZero() {
        Check.sentence("(so 0 stays 0)");
        BarometerLeague x = Leagues.of(1, 5, 0);
        x.weigh(0, 0, 0);
        Check.equal("hits of 90 dry days", x.pass(90), 90);
        Check.equal("0 behind 90 wrong days", x.weight(0, 0), 0);
        x.weigh(0, 0, 1);
        x.pass(1);
        Check.equal("1 behind a wrong day", x.weight(0, 0), 0);
    }

    private static void rightOnTheDayThatGoesBy() {
        Check.sentence("4. The day is 1 greater (behind the weights of it)");
        BarometerLeague x = Leagues.of(1, 3, 0);
        x.pass(1);
        Check.equal("wrong on the dry day 0", x.weight(0, 0), 15);
        Check.equal("the day", x.count(0), 1);
        x.pass(1);
        Check.equal("right on the dry day 1", x.weight(0, 0), 16);
        Check.equal("the day", x.count(0), 2);
    }

    private static void almanacsOfARow() {
        Check.sentence("whose row of hits, as it is now, is 1 or more gets as many coins, at most 5");
        BarometerLeague x = Leagues.of(1);
        int[] coins = {11, 13, 16, 20, 25, 30, 35, 40};
        for (int hits = 1; hits <= 8; hits++) {
            x.pass(1);
            Check.equal("row of hits", x.about(0, 2), hits);
            Check.equal("coins behind " + hits + " hits", x.about(0, 1), coins[hits - 1]);
        }
        x.pass(82);
        Check.equal("a row longer than the most that is sold", x.about(0, 2), 90);
        Check.equal("coins behind it", x.about(0, 1), 450);
    }

    private static void almanacsByTheRowAsItIsNow() {
        Check.sentence("as it is now");
        BarometerLeague x = Leagues.of(1);
        Leagues.rainOn(x, 3, 5);
        x.pass(3);
        Check.equal("coins behind a row of 3", x.about(0, 1), 16);
        x.pass(1);
        Check.equal("the day that ends the row already costs 1", x.about(0, 1), 15);
        x.pass(1);
        Check.equal("the day that starts a row already brings 1", x.about(0, 1), 16);
        x.pass(1);
        Check.equal("coins behind the next miss", x.about(0, 1), 15);
    }

    private static void almanacsOfNone() {
        Check.sentence("one whose row is 0 pays 1 (if there is one)");
        BarometerLeague x = Leagues.of(1);
        Leagues.rainOnEachDay(x);
        int[] coins = {9, 8, 7, 6, 5, 4, 3, 2, 1, 0, 0, 0};
        for (int day = 0; day < 12; day++) {
            x.pass(1);
            Check.equal("coins behind the day " + day, x.about(0, 1), coins[day]);
        }
        x.setRain(0, false);
        x.pass(1);
        Check.equal("the first coin behind that", x.about(0, 1), 1);
        x.pass(1);
        Check.equal("and it is paid again", x.about(0, 1), 0);
    }

    private static void placeByPoints() {
        Check.sentence("Place in the league: 1 and how many villages have more points");
        BarometerLeague x = Leagues.of(2, 5, 0);
        x.weigh(0, 0, 0);
        Leagues.rainOn(x, 0);
        x.pass(1);
        Check.equal("place of the village with 1 point", x.about(1, 4), 1);
        Check.equal("place of the village with none", x.about(0, 4), 2);
        for (int i = 0; i < 2; i++) {
            x.share(1, 0);
        }
        Check.equal("fewer coins", x.about(1, 1), 1);
        Check.equal("more coins", x.about(0, 1), 19);
        Check.equal("points go ahead of coins", x.about(1, 4), 1);
        Check.equal("first village", x.at(1), 1);
    }

    private static void placeByCoins() {
        Check.sentence("or as many points and more coins");
        BarometerLeague x = Leagues.of(3);
        x.share(0, 2);
        Check.equal("place with 15 coins", x.about(2, 4), 1);
        Check.equal("place with 10 coins", x.about(1, 4), 2);
        Check.equal("place with 5 coins", x.about(0, 4), 3);
        for (int day = 0; day < 5; day++) {
            x.setRain(day, true);
        }
        x.pass(5);
        // 0 and 5 coins are left of 5 and 10.
        Check.equal("place without a coin", x.about(0, 4), 3);
    }

    private static void placeByNumber() {
        Check.sentence("or as many of both and a smaller number");
        BarometerLeague x = Leagues.of(6);
        for (int v = 0; v < 6; v++) {
            Check.equal("place of the village " + v, x.about(v, 4), v + 1);
            Check.equal("village at the place " + (v + 1), x.at(v + 1), v);
        }
        x.pass(7);
        x.share(3, 5);
        x.share(5, 3);
        for (int v = 0; v < 6; v++) {
            Check.equal("place of the village " + v + " behind 7 days", x.about(v, 4), v + 1);
        }
        x.share(0, 4);
        String league = "";
        for (int place = 1; place <= 6; place++) {
            league += x.at(place);
        }
        Check.equal("the four with as many coins stay by number", league, "412350");
    }

    private static void placeByNumberWithoutCoins() {
        Check.sentence("or as many of both and a smaller number (none of both)");
        BarometerLeague x = Leagues.of(3);
        Leagues.rainOnEachDay(x);
        x.pass(12);
        Check.equal("all coins", x.count(4), 0);
        for (int v = 0; v < 3; v++) {
            Check.equal("place of the village " + v, x.about(v, 4), v + 1);
        }
    }

    public static void main(String[] args) {
        atMostEightSigns();
        atMostSixVillages();
        weightAtFirst();
        weightOfSignsToldLater();
        villageAtFirst();
        guessRainIfMore();
        guessDryOtherwise();
        guessWithoutSigns();
        guessByTheSignsThereAre();
        guessByAllWeightsTogether();
        hitAndMiss();
        guessAheadOfLearning();
        rightWeighsOneMore();
        wrongWeighsAQuarterLess();
        zeroStaysZero();
        rightOnTheDayThatGoesBy();
        almanacsOfARow();
        almanacsByTheRowAsItIsNow();
        almanacsOfNone();
        placeByPoints();
        placeByCoins();
        placeByNumber();
        placeByNumberWithoutCoins();
        Check.finish();
    }
}
