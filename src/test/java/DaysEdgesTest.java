import java.math.BigInteger;

/** Promises 14 to 20: a test for each sentence that names a boundary case. */
public final class DaysEdgesTest {
    private static final int MIN = Integer.MIN_VALUE;
    private static final int MAX = Integer.MAX_VALUE;

    private static void passDays() {
        Check.sentence("pass throws IllegalArgumentException if days is not 1 to 90");
        BarometerLeague x = Leagues.of(1);
        Check.equal("the fewest", x.pass(1), 1);
        Check.equal("the day", x.count(0), 1);
        Check.equal("the most", x.pass(90), 90);
        Check.equal("the day", x.count(0), 91);
        for (int days : new int[] {0, -1, 91, MIN, MAX}) {
            Check.badArgument(x, "pass(" + days + ")", () -> x.pass(days));
        }
    }

    private static void passHits() {
        Check.sentence("Returns how many hits all have in them");
        Check.equal("without villages", new BarometerLeague().pass(90), 0);
        Check.equal("all of six villages", Leagues.of(6).pass(90), 540);
        BarometerLeague wet = Leagues.of(6);
        Leagues.rainOnEachDay(wet);
        Check.equal("none of six villages", wet.pass(90), 0);
        wet.setRain(0, false);
        // 90 to 101 has one day with the remainder 0, which is 96.
        Check.equal("one of each village", wet.pass(12), 6);
        Check.equal("not those of days ahead of it", wet.pass(1), 0);
    }

    private static void foreseeDays() {
        Check.sentence("foresee throws IllegalArgumentException if days is not 1 to 90");
        BarometerLeague x = Leagues.of(2);
        Check.equal("points behind the fewest", x.foresee(1, 3), 2);
        Check.equal("coins behind the fewest", x.foresee(1, 4), 22);
        Check.equal("points behind the most", x.foresee(90, 3), 180);
        Check.equal("coins behind the most", x.foresee(90, 4), 900);
        for (int days : new int[] {0, -1, 91, MIN, MAX}) {
            for (int what = 3; what <= 5; what++) {
                int asked = what;
                Check.badArgument(x, "foresee(" + days + ", " + what + ")", () -> x.foresee(days, asked));
            }
        }
    }

    private static void foreseeWhat() {
        Check.sentence("foresee throws IndexOutOfBoundsException if what is not 3 to 5");
        BarometerLeague x = Leagues.of(3, 3, 1);
        Check.equal("3", x.foresee(1, 3), 3);
        Check.equal("4", x.foresee(1, 4), 33);
        Check.equal("5, of the day behind", x.foresee(1, 5), 3);
        for (int what : new int[] {2, 6, 0, -1, 7, MIN, MAX}) {
            Check.badIndex(x, "foresee(1, " + what + ")", () -> x.foresee(1, what));
            Check.badIndex(x, "foresee(90, " + what + ")", () -> x.foresee(90, what));
        }
        Check.sentence("foresee throws IllegalArgumentException, IndexOutOfBoundsException: the first of both");
        Check.badArgument(x, "foresee(0, 2)", () -> x.foresee(0, 2));
        Check.badArgument(x, "foresee(91, 6)", () -> x.foresee(91, 6));
        Check.badArgument(x, "foresee(MIN, MAX)", () -> x.foresee(MIN, MAX));
    }

    private static void foreseeNone() {
        Check.sentence("foresee: 3 to 5 as count() has it (without villages)");
        BarometerLeague x = Leagues.of(0, 5, 0);
        for (int what = 3; what <= 5; what++) {
            Check.equal("foresee(90, " + what + ")", x.foresee(90, what), 0);
        }
    }

    private static void foreseeChangesNothing() {
        Check.sentence("foresee .. (nothing is changed)");
        BarometerLeague x = Leagues.full();
        BarometerLeague y = Leagues.full();
        for (int days = 1; days <= 90; days += 89) {
            for (int what = 3; what <= 5; what++) {
                x.foresee(days, what);
            }
        }
        sameFromNowOn(x, y);
    }

    /** Two leagues that should be the same, also in what shows only later. */
    private static void sameFromNowOn(BarometerLeague x, BarometerLeague y) {
        Check.equal("digest()", x.digest(), y.digest());
        for (int days = 1; days <= 90; days *= 3) {
            Check.equal("hits of " + days + " days", x.pass(days), y.pass(days));
            Check.equal("digest() behind them", x.digest(), y.digest());
        }
    }

    private static void overtakesNow() {
        Check.sentence("0 if now");
        BarometerLeague x = Leagues.of(6);
        Check.equal("the smaller number has the better place", x.overtakes(0, 5), 0);
        Check.equal("the greater one never has", x.overtakes(5, 0), -1);
        x.share(0, 5);
        Check.equal("more coins have the better place", x.overtakes(5, 0), 0);
        Check.equal("fewer never have", x.overtakes(0, 5), -1);
    }

    private static void overtakesTomorrow() {
        Check.sentence("behind how many days the first one has a better place than the second one");
        BarometerLeague x = Leagues.of(2, 5, 0);
        x.weigh(0, 0, 0);
        Leagues.rainOn(x, 0);
        Check.equal("by points behind 1 day", x.overtakes(1, 0), 1);
        BarometerLeague y = Leagues.of(2, 5, 0, 1, 0);
        y.weigh(1, 0, 19);
        Leagues.rainOn(y, 1);
        // Both are right, then both wrong; then 0 weighs 16 to 15 and misses the dry day 2, 1 weighs 15 to 15.
        Check.equal("by points behind 3 days", y.overtakes(1, 0), 3);
    }

    private static void overtakesByCoins() {
        Check.sentence("a better place (by coins, with as many points)");
        BarometerLeague x = Leagues.of(2, 3, 0, 3, 1);
        x.weigh(0, 0, 0);
        x.weigh(1, 1, 0);
        // 0 misses the day 1 alone and 1 the day 0 alone, so that the row of hits of 1 is the longer one.
        Check.equal("behind 3 days", x.overtakes(1, 0), 3);
        x.pass(2);
        Check.equal("points behind 2 days", x.about(1, 0), x.about(0, 0));
        Check.equal("coins behind 2 days", x.about(1, 1), x.about(0, 1));
        Check.equal("the place of 1 then", x.about(1, 4), 2);
        x.pass(1);
        Check.equal("points behind 3 days", x.about(1, 0), x.about(0, 0));
        Check.equal("coins of 0 behind 3 days", x.about(0, 1), 11);
        Check.equal("coins of 1 behind 3 days", x.about(1, 1), 12);
    }

    private static void overtakesAtMost120() {
        Check.sentence("at most 120; -1 if not by then");
        BarometerLeague x = Leagues.lateOvertaking();
        Check.equal("behind 123 days", x.overtakes(1, 0), -1);
        x.pass(2);
        Check.equal("behind 121 days", x.overtakes(1, 0), -1);
        x.pass(1);
        Check.equal("behind 120 days", x.overtakes(1, 0), 120);
        x.pass(1);
        Check.equal("behind 119 days", x.overtakes(1, 0), 119);
    }

    private static void overtakesVillages() {
        Check.sentence("overtakes throws IndexOutOfBoundsException if there is no such village");
        BarometerLeague none = new BarometerLeague();
        Check.badIndex(none, "overtakes(0, 1) without villages", () -> none.overtakes(0, 1));
        BarometerLeague x = Leagues.of(3);
        Check.equal("the last two", x.overtakes(1, 2), 0);
        for (int v : new int[] {-1, 3, 5, 6, MIN, MAX}) {
            Check.badIndex(x, "overtakes(" + v + ", 0)", () -> x.overtakes(v, 0));
            Check.badIndex(x, "overtakes(0, " + v + ")", () -> x.overtakes(0, v));
        }
        Check.sentence("overtakes throws IllegalArgumentException if both are the same");
        for (int v = 0; v < 3; v++) {
            int same = v;
            Check.badArgument(x, "overtakes(" + v + ", " + v + ")", () -> x.overtakes(same, same));
        }
        Check.sentence("overtakes throws IndexOutOfBoundsException, IllegalArgumentException: the first of both");
        Check.badIndex(x, "overtakes(3, 3)", () -> x.overtakes(3, 3));
        Check.badIndex(x, "overtakes(-1, -1)", () -> x.overtakes(-1, -1));
    }

    private static void overtakesChangesNothing() {
        Check.sentence("overtakes .. (nothing is changed)");
        BarometerLeague x = Leagues.full();
        BarometerLeague y = Leagues.full();
        for (int a = 0; a < 6; a++) {
            for (int b = 0; b < 6; b++) {
                if (a != b) {
                    x.overtakes(a, b);
                }
            }
        }
        sameFromNowOn(x, y);
    }

    private static void adviseDays() {
        Check.sentence("advise throws IllegalArgumentException if days is not 1 to 60");
        BarometerLeague x = Leagues.lateAdvice();
        Check.equal("behind 60 days", x.advise(0, 60), 1);
        Check.equal("behind 59 days", x.advise(0, 59), -1);
        BarometerLeague y = Leagues.of(1, 1, 0, 5, 0);
        y.weigh(0, 1, 21);
        Check.equal("behind 1 day", y.advise(0, 1), 1);
        for (int days : new int[] {0, -1, 61, 90, MIN, MAX}) {
            Check.badArgument(x, "advise(0, " + days + ")", () -> x.advise(0, days));
        }
    }

    private static void adviseTheMostPoints() {
        Check.sentence("so that it has the most points behind so many days");
        BarometerLeague x = Leagues.of(1, 5, 0, 5, 0, 1, 0);
        x.weigh(0, 0, 21);
        x.weigh(0, 1, 40);
        x.weigh(0, 2, 30);
        // As it is three dry days are missed, without 0 just the first (by 40 to 30), without 1 none.
        Check.equal("points as it is", x.foresee(3, 3), 0);
        Check.equal("without 1 it has one more than without 0", x.advise(0, 3), 1);
        x.weigh(0, 0, 40);
        x.weigh(0, 1, 21);
        Check.equal("and so it is if both are changed about", x.advise(0, 3), 0);
    }

    private static void adviseTheSmallestNumber() {
        Check.sentence("of several the one with the smallest number");
        BarometerLeague x = Leagues.of(1, 1, 0, 5, 0, 5, 0, 5, 0);
        x.weigh(0, 0, 50);
        Check.equal("each of three would do", x.advise(0, 1), 1);
        x.weigh(0, 1, 1);
        x.weigh(0, 0, 39);
        Check.equal("without 1 too much is left", x.advise(0, 1), 2);
    }

    private static void adviseNone() {
        Check.sentence("-1 if by none it has more than without");
        BarometerLeague x = Leagues.of(1);
        Check.equal("without signs", x.advise(0, 60), -1);
        x.sign(1, 0);
        Check.equal("as many points without it", x.advise(0, 60), -1);
        Leagues.rainOnEachDay(x);
        x.sign(5, 0);
        x.weigh(0, 1, 100);
        Check.equal("fewer points without it", x.advise(0, 1), -1);
        x.weigh(0, 1, 0);
        Check.equal("a sign that weighs 0 already", x.advise(0, 1), -1);
    }

    private static void adviseEightSigns() {
        Check.sentence("Looks for the sign (of 8, of the last of 6 villages)");
        BarometerLeague x = Leagues.of(6, 1, 0, 1, 0, 1, 0, 1, 0, 1, 0, 1, 0, 1, 0, 5, 0);
        for (int s = 0; s < 7; s++) {
            x.weigh(5, s, 0);
        }
        Check.equal("the last sign", x.advise(5, 1), 7);
        Check.equal("a village that is right", x.advise(4, 1), -1);
        Leagues.rainOnEachDay(x);
        x.weigh(5, 0, 20);
        Check.equal("the first sign", x.advise(5, 1), 0);
    }

    private static void adviseVillages() {
        Check.sentence("advise throws IndexOutOfBoundsException if there is no such village");
        BarometerLeague none = Leagues.of(0, 5, 0);
        Check.badIndex(none, "advise(0, 1) without villages", () -> none.advise(0, 1));
        BarometerLeague x = Leagues.of(3, 5, 0);
        Check.equal("the last one", x.advise(2, 1), 0);
        for (int v : new int[] {-1, 3, 5, 6, MIN, MAX}) {
            Check.badIndex(x, "advise(" + v + ", 1)", () -> x.advise(v, 1));
        }
        Check.sentence("advise throws IndexOutOfBoundsException, IllegalArgumentException: the first of both");
        Check.badIndex(x, "advise(3, 0)", () -> x.advise(3, 0));
        Check.badIndex(x, "advise(-1, 61)", () -> x.advise(-1, 61));
    }

    private static void adviseChangesNothing() {
        Check.sentence("advise .. (nothing is changed)");
        BarometerLeague x = Leagues.full();
        BarometerLeague y = Leagues.full();
        for (int v = 0; v < 6; v++) {
            x.advise(v, 1);
            x.advise(v, 60);
        }
        sameFromNowOn(x, y);
    }

    private static void bestWithoutAny() {
        Check.sentence("best: -1 without any");
        BarometerLeague x = Leagues.of(6);
        Check.equal("without signs", x.best(), -1);
        x.sign(5, 0);
        Check.equal("the only one, right on no day", x.best(), 0);
    }

    private static void bestOfSeveral() {
        Check.sentence("of several the one with the smallest number");
        BarometerLeague x = Leagues.of(0, 5, 0, 5, 1, 5, 2, 5, 3, 5, 4, 5, 5, 5, 6);
        Check.equal("seven right on no day", x.best(), 0);
        x.sign(3, 0);
        Check.equal("the last one, right on ten days", x.best(), 7);
        Leagues.rainOn(x, 1, 2, 3, 4, 5);
        Check.equal("five days each", x.best(), 0);
        x.setRain(1, false);
        Check.equal("six days against four", x.best(), 7);
        Leagues.rainOnEachDay(x);
        Check.equal("all days each, but for the last", x.best(), 0);
    }

    private static void meanWithoutAny() {
        Check.sentence("mean: 0 without any");
        BarometerLeague x = new BarometerLeague();
        Check.equal("without villages", x.mean(), 0.0);
        x.pass(90);
        Check.equal("without villages, later", x.mean(), 0.0);
        x.join();
        Check.equal("one without points", x.mean(), 0.0);
    }

    private static void meanOfAll() {
        Check.sentence("Returns the mean of the points of all villages");
        BarometerLeague x = Leagues.of(1);
        x.pass(1);
        Check.equal("of one", x.mean(), 1.0);
        x.join();
        Check.equal("of 1 and 0", x.mean(), 0.5);
        for (int v = 2; v < 6; v++) {
            x.join();
        }
        Check.equal("of 1 and five times 0", x.mean(), 1.0 / 6.0);
        x.pass(90);
        Check.equal("of 91 and five times 90", x.mean(), 541.0 / 6.0);
    }

    /** The checksum of what a league without signs and villages tells, as a number of any size. */
    private static BigInteger checksum(int... numbers) {
        BigInteger d = BigInteger.valueOf(1459);
        for (int x : numbers) {
            d = d.multiply(BigInteger.valueOf(31)).add(BigInteger.valueOf(x));
        }
        return d;
    }

    private static void digestOfNone() {
        Check.sentence("A number d starts with 1459; ..");
        BigInteger due = checksum(0, 0, 0, 0, 0, 0, 0, 30, 0, 30, 0, 30, 0, 30, 0, 30, 0, 30, 0,
                30, 0, 30, 0, 30, 0, 30, 0, 30, 0, 30, 0);
        Check.equal("digest() of a new object", new BarometerLeague().digest(), due.longValue());
        Check.sentence("which wraps around as a 64-bit integer");
        Check.isTrue("it has more than 64 bits", due.bitLength() > 64);
        BigInteger wrapped = due.mod(BigInteger.ONE.shiftLeft(64));
        Check.equal("its last 64 bits", BigInteger.valueOf(new BarometerLeague().digest())
                .mod(BigInteger.ONE.shiftLeft(64)), wrapped);
    }

    private static void digestOrder() {
        Check.sentence("count() .. the glass, then 1 if it rains, else 0 .. told() .. about(), then its weight for each sign");
        BarometerLeague x = Leagues.of(2, 5, 7, 1, 29);
        x.weigh(1, 0, 3);
        x.setGlass(0, 60);
        x.setGlass(11, 0);
        x.setRain(11, true);
        x.pass(1);
        // The dry day 0: 0 weighed 20 to 20 and 1 weighed 3 to 20, so that both were right.
        BigInteger due = checksum(1, 2, 2, 2, 22, 0, 1,
                60, 0, 30, 0, 30, 0, 30, 0, 30, 0, 30, 0, 30, 0, 30, 0, 30, 0, 30, 0, 30, 0, 0, 1,
                5, 7, 1, 17, 1, 29, 12, 42,
                1, 11, 1, 36, 1, 0, -6, 15, 21,
                1, 11, 1, 23, 2, 0, -19, 2, 21);
        Check.equal("digest()", x.digest(), due.longValue());
    }

    private static void digestOfTheMost() {
        Check.sentence("for each sign .. for each village .. (8 signs, 6 villages)");
        BarometerLeague x = Leagues.full();
        long d = x.digest();
        x.weigh(5, 7, x.weight(5, 7) == 0 ? 1 : 0);
        Check.isTrue("the last weight counts", x.digest() != d);
        d = x.digest();
        boolean rains = x.setRain(11, true);
        x.setRain(11, !rains);
        Check.isTrue("the last day of the table counts", x.digest() != d);
    }

    public static void main(String[] args) {
        passDays();
        passHits();
        foreseeDays();
        foreseeWhat();
        foreseeNone();
        foreseeChangesNothing();
        overtakesNow();
        overtakesTomorrow();
        overtakesByCoins();
        overtakesAtMost120();
        overtakesVillages();
        overtakesChangesNothing();
        adviseDays();
        adviseTheMostPoints();
        adviseTheSmallestNumber();
        adviseNone();
        adviseEightSigns();
        adviseVillages();
        adviseChangesNothing();
        bestWithoutAny();
        bestOfSeveral();
        meanWithoutAny();
        meanOfAll();
        digestOfNone();
        digestOrder();
        digestOfTheMost();
        Check.finish();
    }
}
