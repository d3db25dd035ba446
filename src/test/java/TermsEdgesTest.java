/** 'What it is' and 'Terms': a test for each sentence that names a boundary case, up to the signs' kinds. */
public final class TermsEdgesTest {
    private static void atMost512Calls() {
        Check.sentence("An object is used for at most 512 calls after it has been made");
        BarometerLeague x = Leagues.of(6, 5, 0, 1, 0, 1, 0, 1, 0, 1, 0, 1, 0, 1, 0, 1, 0);
        for (int call = 15; call <= 509; call++) {
            Check.equal("hits of the call " + call, x.pass(90), 540);
        }
        Check.equal("day, the call 510", x.count(0), 495 * 90);
        Check.equal("all points, the call 511", x.count(3), 6 * 495 * 90);
        // Each row of hits brought 1, 2, 3 and 4 coins, then 5 a day.
        Check.equal("all coins, the call 512", x.count(4), 6 * (10 + 10 + 5 * (495 * 90 - 4)));
    }

    private static void divisionIsCut() {
        Check.sentence("/ is cut towards 0");
        BarometerLeague x = Leagues.of(2, 5, 0);
        x.weigh(0, 0, 0);
        x.weigh(1, 0, 1);
        x.share(0, 1);
        Check.equal("the mean of 0 and 1", x.weight(0, 0), 0);
    }

    private static void timeFromDay0() {
        Check.sentence("Time is told in days, from 0");
        BarometerLeague x = Leagues.of(1, 3, 0);
        Check.equal("the first day", x.count(0), 0);
        Check.equal("it guesses for the day 0, that leaves 0 by 7", x.about(0, 5), 1);
        x.pass(1);
        Check.equal("the day behind it", x.count(0), 1);
        Check.equal("it guesses for the day 1", x.about(0, 5), 0);
    }

    private static void tablesOf12Days() {
        Check.sentence("Tables of 12 days (the day by the remainder of 12)");
        BarometerLeague x = Leagues.of(1, 1, 8, 1, 9);
        x.setGlass(0, 7);
        x.setGlass(11, 8);
        for (int round = 0; round <= 996; round += 12) {
            Check.isTrue("the day 0 of the table on " + round, x.says(0, round));
            Check.isTrue("the day 1 of the table on " + (round + 1), !x.says(1, round + 1));
        }
        for (int round = 11; round <= 995; round += 12) {
            Check.isTrue("the day 11 of the table on " + round, !x.says(0, round) && x.says(1, round));
            Check.isTrue("the day 10 of the table on " + (round - 1), !x.says(1, round - 1));
        }
    }

    private static void tablesOf12DaysWhenDaysGoBy() {
        Check.sentence("Tables of 12 days (the day by the remainder of 12)");
        BarometerLeague x = Leagues.of(1);
        Leagues.rainOn(x, 0, 11);
        // Without signs the guess is dry, so that just the rainy days are missed.
        for (int day = 0; day <= 36; day++) {
            boolean rainy = day == 0 || day == 11 || day == 12 || day == 23 || day == 24 || day == 35 || day == 36;
            Check.equal("hits of the day " + day, x.pass(1), rainy ? 0 : 1);
        }
    }

    private static void glassAtFirst() {
        Check.sentence("how high the glass stands, 0 to 60 (30, at first)");
        BarometerLeague x = Leagues.of(0, 1, 30, 1, 31);
        for (int day = 0; day < 12; day++) {
            Check.isTrue("not below 30 on " + day, !x.says(0, day));
            Check.isTrue("below 31 on " + day, x.says(1, day));
            Check.equal("the glass on " + day, x.setGlass(day, 60), 30);
            Check.equal("60 on " + day, x.setGlass(day, 0), 60);
            Check.equal("0 on " + day, x.setGlass(day, 30), 0);
        }
    }

    private static void rainAtFirst() {
        Check.sentence("whether it rains (no, at first)");
        BarometerLeague x = Leagues.of(0, 2, 0);
        Check.equal("rainy days", x.count(6), 0);
        for (int day = 0; day < 12; day++) {
            Check.isTrue("no rain ahead of " + day, !x.says(0, day));
            Check.equal("rain on " + day, x.setRain(day, false), false);
        }
    }

    private static void dayAhead() {
        Check.sentence("The day ahead of the day d is d less 1");
        for (int rainy = 0; rainy < 11; rainy++) {
            BarometerLeague x = Leagues.of(0, 2, 0, 0, 1);
            x.setRain(rainy, true);
            x.setGlass(rainy, 31);
            for (int day = 0; day < 12; day++) {
                Check.equal("rain on " + rainy + ", told by the day " + day, x.says(0, day), day == rainy + 1);
                Check.equal("a fall since " + rainy + ", told by the day " + day, x.says(1, day), day == rainy + 1);
            }
        }
    }

    private static void dayAheadOfDay0() {
        Check.sentence("the one ahead of the day 0 that with the remainder 11");
        BarometerLeague x = Leagues.of(2, 2, 0, 0, 1, 4, 0);
        x.setGlass(11, 31);
        for (int day = 0; day <= 24; day += 12) {
            Check.isTrue("no rain ahead of " + day, !x.says(0, day));
            Check.isTrue("a fall by 1 on " + day, x.says(1, day));
            Check.isTrue("a fall without rain ahead on " + day, x.says(2, day));
        }
        x.setRain(11, true);
        for (int day = 0; day <= 24; day += 12) {
            Check.isTrue("rain ahead of " + day, x.says(0, day));
            Check.isTrue("a fall with rain ahead on " + day, !x.says(2, day));
        }
        Check.equal("more of rain on the day 0", x.about(0, 6), 20);
        Check.equal("villages that guess rain on it", x.count(5), 2);
        Check.equal("hits of the dry day 0", x.pass(1), 0);
        Check.equal("the weight of the sign that was wrong on it", x.weight(0, 0), 15);
        Check.equal("the weight of the one that was right", x.weight(0, 2), 21);
    }

    private static boolean saysBehind(int kind, int number, boolean rainAhead, int glassAhead, int glass) {
        BarometerLeague x = Leagues.of(0, kind, number);
        x.setRain(4, rainAhead);
        x.setGlass(4, glassAhead);
        x.setGlass(5, glass);
        return x.says(0, 5);
    }

    private static void kind0(int number, int glassAhead, int glass, boolean due) {
        String call = "kind 0, number " + number + ", from " + glassAhead + " to " + glass;
        Check.equal(call, saysBehind(0, number, false, glassAhead, glass), due);
        Check.equal(call + " behind a rainy day", saysBehind(0, number, true, glassAhead, glass), due);
    }

    private static void kind0FallenByTheNumberOrMore() {
        Check.sentence("0, if the glass has fallen since the day ahead by the number or more");
        kind0(1, 30, 30, false);
        kind0(1, 30, 29, true);
        kind0(1, 30, 28, true);
        kind0(1, 29, 30, false);
        kind0(5, 30, 26, false);
        kind0(5, 30, 25, true);
        kind0(5, 30, 24, true);
        kind0(5, 25, 30, false);
        kind0(59, 60, 2, false);
        kind0(59, 60, 1, true);
        kind0(60, 60, 1, false);
        kind0(60, 59, 0, false);
        kind0(60, 60, 0, true);
        kind0(60, 0, 60, false);
    }

    private static void kind0NumberZero() {
        Check.sentence("(by 0 as well, but not if it rose)");
        kind0(0, 0, 0, true);
        kind0(0, 30, 30, true);
        kind0(0, 60, 60, true);
        kind0(0, 30, 29, true);
        kind0(0, 60, 0, true);
        kind0(0, 30, 31, false);
        kind0(0, 0, 1, false);
        kind0(0, 0, 60, false);
    }

    private static void kind1BelowTheNumber() {
        Check.sentence("1, if it stands below the number");
        int[][] cases = {{0, 0, 0}, {0, 60, 0}, {1, 0, 1}, {1, 1, 0}, {30, 29, 1}, {30, 30, 0}, {30, 31, 0},
            {60, 0, 1}, {60, 59, 1}, {60, 60, 0}};
        for (int[] c : cases) {
            Check.equal("kind 1, number " + c[0] + ", glass " + c[1], saysBehind(1, c[0], true, 30, c[1]), c[2] == 1);
        }
    }

    private static void kind2RainAhead() {
        Check.sentence("2, if it rained on the day ahead");
        for (int number = 0; number <= 60; number += 60) {
            Check.isTrue("rain ahead, number " + number, saysBehind(2, number, true, 30, 30));
            Check.isTrue("no rain ahead, number " + number, !saysBehind(2, number, false, 60, 0));
        }
        BarometerLeague x = Leagues.of(0, 2, 0);
        Leagues.rainOn(x, 5);
        Check.isTrue("rain on the day itself", !x.says(0, 5));
        Check.isTrue("rain on the day ahead", x.says(0, 6));
        Check.isTrue("rain two days ahead", !x.says(0, 7));
    }

    private static void kind3RemainderBy7() {
        Check.sentence("3, if the day divided by 7 leaves the remainder of its number by 7");
        int[] numbers = {0, 1, 6, 7, 8, 13, 59, 60};
        int[] remainders = {0, 1, 6, 0, 1, 6, 3, 4};
        for (int i = 0; i < numbers.length; i++) {
            BarometerLeague x = Leagues.of(0, 3, numbers[i]);
            int remainder = 0;
            for (int day = 0; day <= 999; day++) {
                Check.equal("number " + numbers[i] + ", day " + day, x.says(0, day), remainder == remainders[i]);
                remainder = remainder == 6 ? 0 : remainder + 1;
            }
        }
    }

    private static void kind3DayItself() {
        Check.sentence("(itself, not its place in the table)");
        BarometerLeague x = Leagues.of(1, 3, 0, 3, 5);
        Check.isTrue("the day 12 leaves 5, not 0 as its place does", !x.says(0, 12) && x.says(1, 12));
        Check.isTrue("the day 84 leaves 0, and so does its place", x.says(0, 84) && !x.says(1, 84));
        Check.isTrue("the day 14 leaves 0, its place 2", x.says(0, 14));
        x.weigh(0, 0, 1);
        x.weigh(0, 1, 0);
        Check.equal("guess of the day 0", x.about(0, 5), 1);
        x.pass(12);
        x.weigh(0, 0, 1);
        x.weigh(0, 1, 0);
        Check.equal("guess of the day 12", x.about(0, 5), 0);
        x.weigh(0, 1, 2);
        Check.equal("guess of the day 12 by the other sign", x.about(0, 5), 1);
    }

    private static void kind4BelowTheDayAheadWithoutRain() {
        Check.sentence("4, if it did not rain on the day ahead, and the glass stands below that of the day ahead");
        for (int number = 0; number <= 60; number += 60) {
            Check.isTrue("1 below, number " + number, saysBehind(4, number, false, 30, 29));
            Check.isTrue("as high, number " + number, !saysBehind(4, number, false, 30, 30));
            Check.isTrue("1 above, number " + number, !saysBehind(4, number, false, 30, 31));
            Check.isTrue("1 below behind rain, number " + number, !saysBehind(4, number, true, 30, 29));
            Check.isTrue("as high behind rain, number " + number, !saysBehind(4, number, true, 30, 30));
            Check.isTrue("from 60 to 0, number " + number, saysBehind(4, number, false, 60, 0));
            Check.isTrue("from 60 to 0 behind rain, number " + number, !saysBehind(4, number, true, 60, 0));
        }
        BarometerLeague x = Leagues.of(0, 4, 0);
        x.setGlass(5, 29);
        x.setRain(5, true);
        Check.isTrue("rain on the day itself", x.says(0, 5));
    }

    private static void kind5Always() {
        Check.sentence("5, always");
        for (int number = 0; number <= 60; number += 60) {
            Check.isTrue("risen behind a dry day", saysBehind(5, number, false, 0, 60));
            Check.isTrue("fallen behind a rainy day", saysBehind(5, number, true, 60, 0));
            BarometerLeague x = Leagues.of(0, 5, number);
            Check.isTrue("the first day and the last", x.says(0, 0) && x.says(0, 999));
        }
    }

    private static void otherwiseDry() {
        Check.sentence("Otherwise it says dry");
        BarometerLeague x = Leagues.of(1, 0, 1, 1, 0, 2, 0, 3, 1, 4, 0);
        for (int s = 0; s < 5; s++) {
            Check.isTrue("the sign " + s, !x.says(s, 0));
        }
        Check.equal("all five weigh for dry", x.about(0, 6), -100);
    }

    public static void main(String[] args) {
        atMost512Calls();
        divisionIsCut();
        timeFromDay0();
        tablesOf12Days();
        tablesOf12DaysWhenDaysGoBy();
        glassAtFirst();
        rainAtFirst();
        dayAhead();
        dayAheadOfDay0();
        kind0FallenByTheNumberOrMore();
        kind0NumberZero();
        kind1BelowTheNumber();
        kind2RainAhead();
        kind3RemainderBy7();
        kind3DayItself();
        kind4BelowTheDayAheadWithoutRain();
        kind5Always();
        otherwiseDry();
        Check.finish();
    }
}
