/** Promises 14 to 20: pass, foresee, overtakes, advise, best, mean, digest. */
public final class DaysTest {
    private static void promise14Weights() {
        int[] before = {0, 1, 2, 3, 4, 5, 8, 9, 20, 99, 100};
        int[] wrong = {0, 0, 1, 2, 3, 3, 6, 6, 15, 74, 75};
        int[] right = {1, 2, 3, 4, 5, 6, 9, 10, 21, 100, 100};
        for (int i = 0; i < before.length; i++) {
            BarometerLeague x = new BarometerLeague();
            x.join();
            x.sign(5, 0);
            x.sign(1, 0);
            x.weigh(0, 0, before[i]);
            x.weigh(0, 1, before[i]);
            // A dry day: the sign 0 says rain, the sign 1 dry.
            Check.equal("as many of both are dry, a hit", x.pass(1), 1);
            Check.equal(before[i] + " of a wrong sign", x.weight(0, 0), wrong[i]);
            Check.equal(before[i] + " of a right sign", x.weight(0, 1), right[i]);
        }
    }

    private static void promise14Almanacs() {
        BarometerLeague x = new BarometerLeague();
        x.join();
        for (int day = 7; day < 12; day++) {
            x.setRain(day, true);
        }
        int[] coins = {11, 13, 16, 20, 25, 30, 35, 34, 33, 32, 31, 30};
        for (int day = 0; day < 12; day++) {
            Check.equal("hits of the day " + day, x.pass(1), day < 7 ? 1 : 0);
            Check.equal("row behind the day " + day, x.about(0, 2), day < 7 ? day + 1 : 0);
            Check.equal("points behind the day " + day, x.about(0, 0), Math.min(day + 1, 7));
            Check.equal("coins behind the day " + day, x.about(0, 1), coins[day]);
        }
        x.pass(1);
        Check.equal("a new row starts with 1 coin", x.about(0, 1), 31);
    }

    private static void promise14NoCoinToPay() {
        BarometerLeague x = new BarometerLeague();
        x.join();
        for (int day = 0; day < 12; day++) {
            x.setRain(day, true);
        }
        Check.equal("hits", x.pass(10), 0);
        Check.equal("coins behind ten wrong days", x.about(0, 1), 0);
        Check.equal("hits", x.pass(90), 0);
        Check.equal("coins behind a hundred", x.about(0, 1), 0);
        Check.equal("day", x.count(0), 100);
    }

    private static void promise14Pass() {
        BarometerLeague x = new BarometerLeague();
        Check.equal("hits without villages", x.pass(90), 0);
        Check.equal("day", x.count(0), 90);
        x.join();
        x.join();
        x.sign(5, 0);
        x.weigh(0, 0, 2);
        x.weigh(1, 0, 0);
        x.setRain(6, true);
        // The day 90 is the day 6 of the table.
        Check.equal("hits of the day 90", x.pass(1), 1);
        // 0 weighs the sign 2, 1 and at last 0 on the dry days behind it; 1 misses just the day 91.
        Check.equal("hits of the days 91 to 94", x.pass(4), 4);
        Check.badArgument(x, "pass(0)", () -> x.pass(0));
        Check.badArgument(x, "pass(-1)", () -> x.pass(-1));
        Check.badArgument(x, "pass(91)", () -> x.pass(91));
    }

    private static void promise14DaysOneByOne() {
        BarometerLeague x = Leagues.lateOvertaking();
        BarometerLeague y = Leagues.lateOvertaking();
        int hits = 0;
        for (int day = 0; day < 90; day++) {
            hits += y.pass(1);
        }
        Check.equal("hits at once and one by one", x.pass(90), hits);
        Check.equal("digest at once and one by one", x.digest(), y.digest());
    }

    private static void promise15Foresee() {
        for (int days = 1; days <= 90; days++) {
            BarometerLeague x = Leagues.lateOvertaking();
            x.pass(5);
            long before = x.digest();
            int points = x.foresee(days, 3);
            int coins = x.foresee(days, 4);
            int guessing = x.foresee(days, 5);
            Check.equal("digest() behind foresee()", x.digest(), before);
            x.pass(days);
            Check.equal("points behind " + days, points, x.count(3));
            Check.equal("coins behind " + days, coins, x.count(4));
            Check.equal("guessing behind " + days, guessing, x.count(5));
        }
        BarometerLeague x = Leagues.lateOvertaking();
        Check.badArgument(x, "foresee(0, 3)", () -> x.foresee(0, 3));
        Check.badArgument(x, "foresee(91, 3)", () -> x.foresee(91, 3));
        Check.badIndex(x, "foresee(1, 2)", () -> x.foresee(1, 2));
        Check.badIndex(x, "foresee(1, 6)", () -> x.foresee(1, 6));
        Check.badArgument(x, "foresee(0, 6), the days first", () -> x.foresee(0, 6));
        Check.equal("coins without villages", new BarometerLeague().foresee(90, 4), 0);
    }

    private static void promise15GuessOfALaterDay() {
        BarometerLeague x = new BarometerLeague();
        x.join();
        x.join();
        x.sign(3, 5);
        Check.equal("guessing rain for the day 4", x.foresee(4, 5), 0);
        Check.equal("guessing rain for the day 5", x.foresee(5, 5), 2);
        Check.equal("points then", x.foresee(5, 3), 10);
        Check.equal("coins then", x.foresee(5, 4), 50);
    }

    private static void promise16Overtakes() {
        BarometerLeague x = Leagues.lateOvertaking();
        Check.equal("the better one now", x.overtakes(0, 1), 0);
        Check.equal("behind 123 days", x.overtakes(1, 0), -1);
        x.pass(2);
        Check.equal("behind 121 days", x.overtakes(1, 0), -1);
        x.pass(1);
        long before = x.digest();
        Check.equal("behind 120 days", x.overtakes(1, 0), 120);
        Check.equal("digest() behind overtakes()", x.digest(), before);
        x.pass(90);
        x.pass(29);
        Check.equal("behind 1 day", x.overtakes(1, 0), 1);
        Check.equal("place on the day ahead", x.about(1, 4), 2);
        x.pass(1);
        Check.equal("now", x.overtakes(1, 0), 0);
        Check.equal("place then", x.about(1, 4), 1);
        Check.badArgument(x, "overtakes(1, 1)", () -> x.overtakes(1, 1));
        Check.badIndex(x, "overtakes(-1, 0)", () -> x.overtakes(-1, 0));
        Check.badIndex(x, "overtakes(2, 0)", () -> x.overtakes(2, 0));
        Check.badIndex(x, "overtakes(0, -1)", () -> x.overtakes(0, -1));
        Check.badIndex(x, "overtakes(0, 2)", () -> x.overtakes(0, 2));
        Check.badIndex(x, "overtakes(2, 2), the index first", () -> x.overtakes(2, 2));
    }

    private static void promise16SamePointsAndCoins() {
        BarometerLeague x = new BarometerLeague();
        x.join();
        x.join();
        x.join();
        Check.equal("the smaller number is better", x.overtakes(1, 2), 0);
        Check.equal("the greater number never is", x.overtakes(2, 1), -1);
        x.share(0, 2);
        Check.equal("more coins are better", x.overtakes(2, 1), 0);
        Check.equal("fewer coins are not", x.overtakes(0, 1), -1);
    }

    private static void promise17Advise() {
        BarometerLeague x = new BarometerLeague();
        x.join();
        Check.equal("advise() without signs", x.advise(0, 60), -1);
        x.sign(1, 0);
        Check.equal("the only sign is right", x.advise(0, 60), -1);
        x.sign(5, 0);
        x.sign(5, 1);
        x.weigh(0, 2, 40);
        // Each dry day is missed until the signs 1 and 2 weigh no more than the sign 0 does.
        Check.equal("without the sign 2, of one day", x.advise(0, 1), 2);
        x.weigh(0, 1, 40);
        long before = x.digest();
        Check.equal("without either too much is left", x.advise(0, 1), -1);
        Check.equal("of two as good ones the first", x.advise(0, 5), 1);
        Check.equal("digest() behind advise()", x.digest(), before);
        Check.badArgument(x, "advise(0, 0)", () -> x.advise(0, 0));
        Check.badArgument(x, "advise(0, 61)", () -> x.advise(0, 61));
        Check.badIndex(x, "advise(-1, 1)", () -> x.advise(-1, 1));
        Check.badIndex(x, "advise(1, 1)", () -> x.advise(1, 1));
        Check.badIndex(x, "advise(1, 0), the index first", () -> x.advise(1, 0));
    }

    /** The sign gets its weight 0 once, and learns again from then on; held at 0, the sign 1 would be it. */
    private static void promise17ForThisOnce() {
        BarometerLeague x = wetLeague();
        int asItIs = x.pass(60);
        x = wetLeague();
        Check.equal("advise(0, 60)", x.advise(0, 60), 0);
        x.weigh(0, 0, 0);
        Check.isTrue("more points without it", x.pass(60) > asItIs);
    }

    private static BarometerLeague wetLeague() {
        BarometerLeague x = new BarometerLeague();
        x.join();
        x.sign(0, 35);
        x.sign(2, 17);
        x.sign(5, 36);
        for (int day : new int[] {0, 1, 2, 4, 6, 7, 11}) {
            x.setRain(day, true);
        }
        x.setGlass(9, 9);
        x.setGlass(2, 16);
        return x;
    }

    private static void promise17EightSigns() {
        BarometerLeague x = new BarometerLeague();
        x.join();
        for (int s = 0; s < 7; s++) {
            x.sign(1, 0);
            x.weigh(0, s, 1);
        }
        x.sign(5, 0);
        x.weigh(0, 7, 100);
        Check.equal("the last of eight signs", x.advise(0, 3), 7);
    }

    private static void promise18Best() {
        BarometerLeague x = new BarometerLeague();
        Check.equal("best() without signs", x.best(), -1);
        x.sign(5, 0);
        Check.equal("the only one, right on no day", x.best(), 0);
        x.sign(3, 0);
        x.sign(1, 0);
        x.sign(1, 30);
        Check.equal("of two as good ones the first", x.best(), 2);
        x.setRain(0, true);
        x.setRain(7, true);
        Check.equal("right on the days 0 and 7", x.best(), 1);
        x.pass(1);
        Check.equal("not by the day", x.best(), 1);
    }

    private static void promise19Mean() {
        BarometerLeague x = new BarometerLeague();
        Check.equal("mean() without villages", x.mean(), 0.0);
        x.join();
        Check.equal("mean() without points", x.mean(), 0.0);
        x.pass(1);
        x.join();
        Check.equal("1 and 0 points", x.mean(), 0.5);
        x.join();
        Check.equal("1, 0 and 0 points", x.mean(), 1.0 / 3);
        x.pass(4);
        Check.equal("5, 4 and 4 points", x.mean(), 13.0 / 3);
    }

    private static long digestByCalls(BarometerLeague x, int[] glass) {
        long d = 1459;
        for (int what = 0; what <= 6; what++) {
            d = d * 31 + x.count(what);
        }
        for (int day = 0; day < 12; day++) {
            boolean rains = x.setRain(day, false);
            x.setRain(day, rains);
            d = d * 31 + glass[day];
            d = d * 31 + (rains ? 1 : 0);
        }
        for (int sign = 0; sign < x.count(1); sign++) {
            for (int what = 0; what <= 3; what++) {
                d = d * 31 + x.told(sign, what);
            }
        }
        for (int village = 0; village < x.count(2); village++) {
            for (int what = 0; what <= 6; what++) {
                d = d * 31 + x.about(village, what);
            }
            for (int sign = 0; sign < x.count(1); sign++) {
                d = d * 31 + x.weight(village, sign);
            }
        }
        return d;
    }

    private static void promise20Digest() {
        int[] still = {30, 30, 30, 30, 30, 30, 30, 30, 30, 30, 30, 30};
        BarometerLeague x = new BarometerLeague();
        Check.equal("digest() of a new object", x.digest(), digestByCalls(x, still));
        BarometerLeague y = Leagues.lateOvertaking();
        int[] glass = {30, 30, 1, 30, 27, 32, 30, 30, 30, 30, 30, 30};
        Check.equal("digest()", y.digest(), digestByCalls(y, glass));
        y.pass(17);
        Check.equal("digest() later", y.digest(), digestByCalls(y, glass));
        Check.isTrue("the day changes it", y.digest() != Leagues.lateOvertaking().digest());
    }

    public static void main(String[] args) {
        promise14Weights();
        promise14Almanacs();
        promise14NoCoinToPay();
        promise14Pass();
        promise14DaysOneByOne();
        promise15Foresee();
        promise15GuessOfALaterDay();
        promise16Overtakes();
        promise16SamePointsAndCoins();
        promise17Advise();
        promise17ForThisOnce();
        promise17EightSigns();
        promise18Best();
        promise19Mean();
        promise20Digest();
        Check.finish();
    }
}
