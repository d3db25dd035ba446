/** Promises 8 to 13: a test for each sentence that names a boundary case. */
public final class WhatThereIsEdgesTest {
    private static final int MIN = Integer.MIN_VALUE;
    private static final int MAX = Integer.MAX_VALUE;

    private static void saysDays() {
        Check.sentence("says throws IllegalArgumentException if day is not 0 to 999");
        BarometerLeague x = Leagues.of(0, 5, 0, 3, 0, 3, 5);
        Check.isTrue("the day 0", x.says(0, 0) && x.says(1, 0) && !x.says(2, 0));
        // 999 is 142 times 7 and 5 more.
        Check.isTrue("the day 999", x.says(0, 999) && !x.says(1, 999) && x.says(2, 999));
        for (int day : new int[] {-1, 1000, MIN, MAX}) {
            Check.badArgument(x, "says(0, " + day + ")", () -> x.says(0, day));
        }
    }

    private static void saysSigns() {
        Check.sentence("says throws IndexOutOfBoundsException if there is no such sign");
        BarometerLeague x = Leagues.of(1);
        Check.badIndex(x, "says(0, 0) without signs", () -> x.says(0, 0));
        x.sign(5, 0);
        Check.isTrue("the only one", x.says(0, 0));
        for (int s : new int[] {-1, 1, 7, 8, MIN, MAX}) {
            Check.badIndex(x, "says(" + s + ", 0)", () -> x.says(s, 0));
        }
        BarometerLeague full = Leagues.full();
        full.says(7, 0);
        Check.badIndex(full, "says(8, 0)", () -> full.says(8, 0));
        Check.sentence("says throws IndexOutOfBoundsException, IllegalArgumentException: the first of both");
        Check.badIndex(x, "says(1, 1000)", () -> x.says(1, 1000));
        Check.badIndex(x, "says(-1, -1)", () -> x.says(-1, -1));
    }

    private static void saysWhateverTheDay() {
        Check.sentence("whether it says rain on it (on the day asked for, not the day that it is)");
        BarometerLeague x = Leagues.of(0, 3, 0, 1, 20);
        x.setGlass(2, 19);
        x.pass(90);
        Check.isTrue("a day that has gone by", x.says(0, 7) && !x.says(0, 6));
        Check.isTrue("by the table", x.says(1, 2) && !x.says(1, 1));
    }

    private static void toldRightDaysNoneAndAll() {
        Check.sentence("2 on how many days of the table it is right");
        BarometerLeague x = Leagues.of(0, 5, 0, 1, 0, 2, 0);
        Check.equal("rain always, on dry days", x.told(0, 2), 0);
        Check.equal("dry always, on dry days", x.told(1, 2), 12);
        Check.equal("no rain ahead, on dry days", x.told(2, 2), 12);
        Leagues.rainOn(x, 11);
        Check.equal("rain always, one rainy day", x.told(0, 2), 1);
        Check.equal("dry always, one rainy day", x.told(1, 2), 11);
        Leagues.rainOnEachDay(x);
        Check.equal("rain always, on rainy days", x.told(0, 2), 12);
        Check.equal("dry always, on rainy days", x.told(1, 2), 0);
        Check.equal("rain ahead, on rainy days", x.told(2, 2), 12);
    }

    private static void toldRightDaysWithTheDayAhead() {
        Check.sentence("(each with the day ahead of it in the table; ..)");
        BarometerLeague x = Leagues.of(0, 2, 0, 0, 1, 4, 0);
        x.setRain(11, true);
        x.setGlass(11, 31);
        // Wrong on the day 11 itself, and on the day 0 behind it if it says rain there.
        Check.equal("rain ahead", x.told(0, 2), 10);
        Check.equal("fallen by 1", x.told(1, 2), 10);
        Check.equal("fallen without rain ahead", x.told(2, 2), 11);
        x.setRain(0, true);
        Check.equal("rain ahead, both days rainy", x.told(0, 2), 10);
        Check.equal("fallen by 1, both days rainy", x.told(1, 2), 11);
        x.setRain(10, true);
        Check.equal("rain ahead, three days rainy", x.told(0, 2), 10);
        Check.equal("fallen by 1, three days rainy", x.told(1, 2), 10);
    }

    private static void toldRightDays0To11() {
        Check.sentence("(..; the days 0 to 11)");
        BarometerLeague x = Leagues.of(0, 3, 0, 3, 4, 3, 5);
        Leagues.rainOn(x, 0, 7);
        Check.equal("the days 0 and 7", x.told(0, 2), 12);
        Leagues.rainOn(x, 4, 11);
        x.setRain(0, false);
        x.setRain(7, false);
        Check.equal("the days 4 and 11", x.told(1, 2), 12);
        // Of the days 0 to 11 just 5 leaves 5 by 7; 12 is not among them.
        Check.equal("the day 5", x.told(2, 2), 9);
        x.pass(12);
        Check.equal("the same on the day 12", x.told(1, 2), 12);
        x.pass(1);
        Check.equal("the same on the day 13", x.told(2, 2), 9);
    }

    private static void toldWeights() {
        Check.sentence("3 its weights of all villages, added");
        BarometerLeague x = Leagues.of(0, 5, 0, 1, 0);
        Check.equal("without villages", x.told(0, 3), 0);
        for (int v = 0; v < 6; v++) {
            x.join();
            Check.equal("of one village more", x.told(0, 3), v * 100 + 20);
            x.weigh(v, 0, 100);
            x.weigh(v, 1, 0);
        }
        Check.equal("the most there can be", x.told(0, 3), 600);
        Check.equal("the least there can be", x.told(1, 3), 0);
    }

    private static void toldWhat() {
        Check.sentence("told throws IndexOutOfBoundsException if there is no such sign, or what is not 0 to 3");
        BarometerLeague none = Leagues.of(6);
        Check.badIndex(none, "told(0, 0) without signs", () -> none.told(0, 0));
        BarometerLeague x = Leagues.of(1, 4, 44, 5, 55);
        Check.equal("told(1, 0)", x.told(1, 0), 5);
        Check.equal("told(1, 1)", x.told(1, 1), 55);
        Check.equal("told(1, 2)", x.told(1, 2), 0);
        Check.equal("told(1, 3)", x.told(1, 3), 20);
        for (int what : new int[] {-1, 4, MIN, MAX}) {
            Check.badIndex(x, "told(0, " + what + ")", () -> x.told(0, what));
        }
        for (int s : new int[] {-1, 2, 7, 8, MIN, MAX}) {
            Check.badIndex(x, "told(" + s + ", 0)", () -> x.told(s, 0));
        }
        BarometerLeague full = Leagues.full();
        Check.equal("told(7, 1)", full.told(7, 1), 25);
        Check.badIndex(full, "told(8, 1)", () -> full.told(8, 1));
    }

    private static void weightOfWhom() {
        Check.sentence("weight throws IndexOutOfBoundsException if there is no such village or sign");
        BarometerLeague noSign = Leagues.of(6);
        Check.badIndex(noSign, "weight(0, 0) without signs", () -> noSign.weight(0, 0));
        BarometerLeague noVillage = Leagues.of(0, 5, 0);
        Check.badIndex(noVillage, "weight(0, 0) without villages", () -> noVillage.weight(0, 0));
        BarometerLeague x = Leagues.of(2, 5, 0, 5, 0, 5, 0);
        x.weigh(1, 2, 77);
        Check.equal("the last of both", x.weight(1, 2), 77);
        for (int v : new int[] {-1, 2, 5, 6, MIN, MAX}) {
            Check.badIndex(x, "weight(" + v + ", 0)", () -> x.weight(v, 0));
        }
        for (int s : new int[] {-1, 3, 7, 8, MIN, MAX}) {
            Check.badIndex(x, "weight(0, " + s + ")", () -> x.weight(0, s));
        }
        BarometerLeague full = Leagues.full();
        full.weigh(5, 7, 66);
        Check.equal("the last of all", full.weight(5, 7), 66);
        Check.badIndex(full, "weight(6, 7)", () -> full.weight(6, 7));
        Check.badIndex(full, "weight(5, 8)", () -> full.weight(5, 8));
    }

    private static void aboutWeights() {
        Check.sentence("3 its weights for the signs there are, added");
        BarometerLeague x = Leagues.of(2);
        Check.equal("without signs", x.about(0, 3), 0);
        for (int s = 0; s < 8; s++) {
            x.sign(5, 0);
            Check.equal("of one sign more", x.about(0, 3), s * 100 + 20);
            x.weigh(0, s, 100);
            x.weigh(1, s, 0);
        }
        Check.equal("the most there can be", x.about(0, 3), 800);
        Check.equal("the least there can be", x.about(1, 3), 0);
    }

    private static void aboutGuess() {
        Check.sentence("5 1 if it guesses rain for this day, else 0");
        BarometerLeague x = Leagues.of(1, 3, 1, 1, 0);
        x.weigh(0, 0, 100);
        Check.equal("for the day 0", x.about(0, 5), 0);
        x.pass(1);
        Check.equal("for the day 1", x.about(0, 5), 1);
        x.weigh(0, 0, 21);
        Check.equal("as many of both", x.about(0, 5), 0);
        x.weigh(0, 0, 22);
        Check.equal("1 more of rain", x.about(0, 5), 1);
    }

    private static void aboutMoreOfRain() {
        Check.sentence("6 by how much the weights of rain are more than those of dry on this day (less than 0, if less)");
        BarometerLeague x = Leagues.of(1);
        Check.equal("without signs", x.about(0, 6), 0);
        for (int s = 0; s < 8; s++) {
            x.sign(2, 0);
            x.weigh(0, s, 100);
        }
        Check.equal("all of dry, the least there can be", x.about(0, 6), -800);
        Leagues.rainOn(x, 11);
        Check.equal("all of rain, the most there can be", x.about(0, 6), 800);
        BarometerLeague y = Leagues.of(1, 5, 0, 1, 0);
        Check.equal("as many of both", y.about(0, 6), 0);
        y.weigh(0, 0, 21);
        Check.equal("1 more of rain", y.about(0, 6), 1);
        y.weigh(0, 0, 19);
        Check.equal("1 more of dry", y.about(0, 6), -1);
    }

    private static void aboutWhat() {
        Check.sentence("about throws IndexOutOfBoundsException if there is no such village, or what is not 0 to 6");
        BarometerLeague none = Leagues.of(0, 5, 0);
        Check.badIndex(none, "about(0, 0) without villages", () -> none.about(0, 0));
        BarometerLeague x = Leagues.of(2, 5, 0);
        Check.equal("about(1, 0)", x.about(1, 0), 0);
        Check.equal("about(1, 6)", x.about(1, 6), 20);
        for (int what : new int[] {-1, 7, MIN, MAX}) {
            Check.badIndex(x, "about(0, " + what + ")", () -> x.about(0, what));
        }
        for (int v : new int[] {-1, 2, 5, 6, MIN, MAX}) {
            Check.badIndex(x, "about(" + v + ", 1)", () -> x.about(v, 1));
        }
        BarometerLeague full = Leagues.of(6);
        Check.equal("about(5, 4)", full.about(5, 4), 6);
        Check.badIndex(full, "about(6, 4)", () -> full.about(6, 4));
    }

    private static void atPlaces() {
        Check.sentence("at: a place in the league, from 1; throws IndexOutOfBoundsException if there is no such place");
        BarometerLeague x = new BarometerLeague();
        for (int villages = 0; villages <= 6; villages++) {
            int behind = villages + 1;
            Check.badIndex(x, "at(0) of " + villages, () -> x.at(0));
            Check.badIndex(x, "at(-1) of " + villages, () -> x.at(-1));
            Check.badIndex(x, "at(" + behind + ") of " + villages, () -> x.at(behind));
            Check.badIndex(x, "at(MIN) of " + villages, () -> x.at(MIN));
            Check.badIndex(x, "at(MAX) of " + villages, () -> x.at(MAX));
            if (villages > 0) {
                Check.equal("at(1) of " + villages, x.at(1), 0);
                Check.equal("at(" + villages + ")", x.at(villages), villages - 1);
            }
            if (villages < 6) {
                x.join();
            }
        }
    }

    private static void atIsWhatAboutTells() {
        Check.sentence("Returns the village there");
        BarometerLeague x = Leagues.full();
        for (int place = 1; place <= 6; place++) {
            Check.equal("the place of the village at " + place, x.about(x.at(place), 4), place);
        }
    }

    private static void countNone() {
        Check.sentence("count: 0 the day .. 6 rainy days of the table (none of each)");
        BarometerLeague x = new BarometerLeague();
        for (int what = 0; what <= 6; what++) {
            Check.equal("count(" + what + ")", x.count(what), 0);
        }
        x.sign(5, 0);
        x.pass(1);
        Check.equal("points without villages", x.count(3), 0);
        Check.equal("coins without villages", x.count(4), 0);
        Check.equal("guessing rain without villages", x.count(5), 0);
        Check.equal("rainy days without rain", x.count(6), 0);
    }

    private static void countMost() {
        Check.sentence("count: 0 the day .. 6 rainy days of the table (the most of each)");
        BarometerLeague x = Leagues.of(6, 5, 0, 5, 0, 5, 0, 5, 0, 5, 0, 5, 0, 5, 0, 5, 0);
        Leagues.rainOnEachDay(x);
        Check.equal("signs", x.count(1), 8);
        Check.equal("villages", x.count(2), 6);
        Check.equal("coins at first", x.count(4), 60);
        Check.equal("all guess rain", x.count(5), 6);
        Check.equal("rainy days", x.count(6), 12);
        x.pass(90);
        Check.equal("the day", x.count(0), 90);
        Check.equal("points", x.count(3), 540);
        Check.equal("coins", x.count(4), 6 * 450);
        for (int s = 0; s < 8; s++) {
            x.weigh(0, s, 0);
        }
        Check.equal("all but one guess rain", x.count(5), 5);
        x.setRain(11, false);
        Check.equal("rainy days but one", x.count(6), 11);
    }

    private static void countWhat() {
        Check.sentence("count throws IndexOutOfBoundsException if what is not 0 to 6");
        BarometerLeague x = Leagues.full();
        Check.equal("count(0)", x.count(0), 10);
        Check.equal("count(6)", x.count(6), 4);
        for (int what : new int[] {-1, 7, MIN, MAX}) {
            Check.badIndex(x, "count(" + what + ")", () -> x.count(what));
        }
    }

    public static void main(String[] args) {
        saysDays();
        saysSigns();
        saysWhateverTheDay();
        toldRightDaysNoneAndAll();
        toldRightDaysWithTheDayAhead();
        toldRightDays0To11();
        toldWeights();
        toldWhat();
        weightOfWhom();
        aboutWeights();
        aboutGuess();
        aboutMoreOfRain();
        aboutWhat();
        atPlaces();
        atIsWhatAboutTells();
        countNone();
        countMost();
        countWhat();
        Check.finish();
    }
}
