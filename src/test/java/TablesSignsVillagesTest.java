/** Promises 1 to 7: a new object, setGlass, setRain, sign, join, weigh, share. */
public final class TablesSignsVillagesTest {
    private static void promise1NewObject() {
        BarometerLeague x = new BarometerLeague();
        for (int what = 0; what <= 6; what++) {
            Check.equal("count(" + what + ") of a new object", x.count(what), 0);
        }
        Check.badIndex(x, "says(0, 0) without signs", () -> x.says(0, 0));
        Check.badIndex(x, "about(0, 0) without villages", () -> x.about(0, 0));
        Check.equal("setGlass(0, 1) of a new object", x.setGlass(0, 1), 30);
        BarometerLeague other = new BarometerLeague();
        Check.equal("setGlass(0, 1) of another object", other.setGlass(0, 1), 30);
    }

    private static void promise2SetGlass() {
        BarometerLeague x = new BarometerLeague();
        x.sign(1, 30);
        for (int day = 0; day < 12; day++) {
            Check.equal("first setGlass(" + day + ")", x.setGlass(day, day), 30);
        }
        for (int day = 0; day < 12; day++) {
            Check.equal("second setGlass(" + day + ")", x.setGlass(day, day % 2 == 0 ? 0 : 60), day);
        }
        Check.isTrue("glass 0 counts as low", x.says(0, 0));
        Check.isTrue("glass 60 counts as high", !x.says(0, 1));
        Check.badIndex(x, "setGlass(-1, 0)", () -> x.setGlass(-1, 0));
        Check.badIndex(x, "setGlass(12, 0)", () -> x.setGlass(12, 0));
        Check.badIndex(x, "setGlass(MIN, 0)", () -> x.setGlass(Integer.MIN_VALUE, 0));
        Check.badArgument(x, "setGlass(0, -1)", () -> x.setGlass(0, -1));
        Check.badArgument(x, "setGlass(11, 61)", () -> x.setGlass(11, 61));
        Check.badIndex(x, "setGlass(12, 61), the index first", () -> x.setGlass(12, 61));
    }

    private static void promise3SetRain() {
        BarometerLeague x = new BarometerLeague();
        for (int day = 0; day < 12; day++) {
            Check.equal("first setRain(" + day + ", true)", x.setRain(day, true), false);
            Check.equal("rainy days", x.count(6), day + 1);
        }
        Check.equal("setRain(11, true) again", x.setRain(11, true), true);
        Check.equal("setRain(0, false)", x.setRain(0, false), true);
        Check.equal("setRain(0, false) again", x.setRain(0, false), false);
        Check.equal("rainy days behind it", x.count(6), 11);
        Check.badIndex(x, "setRain(-1, false)", () -> x.setRain(-1, false));
        Check.badIndex(x, "setRain(12, false)", () -> x.setRain(12, false));
        Check.badIndex(x, "setRain(MAX, false)", () -> x.setRain(Integer.MAX_VALUE, false));
    }

    private static void promise4Sign() {
        BarometerLeague x = new BarometerLeague();
        Check.badArgument(x, "sign(-1, 0)", () -> x.sign(-1, 0));
        Check.badArgument(x, "sign(6, 0)", () -> x.sign(6, 0));
        Check.badArgument(x, "sign(0, -1)", () -> x.sign(0, -1));
        Check.badArgument(x, "sign(5, 61)", () -> x.sign(5, 61));
        for (int s = 0; s < 8; s++) {
            int kind = s % 6;
            int number = s % 2 == 0 ? 60 : 0;
            Check.equal("sign number " + s, x.sign(kind, number), s);
            Check.equal("its kind", x.told(s, 0), kind);
            Check.equal("its number", x.told(s, 1), number);
            Check.equal("signs", x.count(1), s + 1);
        }
        Check.badState(x, "a ninth sign", () -> x.sign(0, 0));
        Check.badArgument(x, "a ninth sign of a wrong kind", () -> x.sign(6, 0));
        Check.badArgument(x, "a ninth sign with a wrong number", () -> x.sign(0, 61));
    }

    private static void promise5Join() {
        BarometerLeague x = new BarometerLeague();
        x.sign(5, 0);
        for (int v = 0; v < 6; v++) {
            Check.equal("join() number " + v, x.join(), v);
            Check.equal("villages", x.count(2), v + 1);
            Check.equal("points of a new village", x.about(v, 0), 0);
            Check.equal("coins of a new village", x.about(v, 1), 10);
            Check.equal("row of hits of a new village", x.about(v, 2), 0);
            Check.equal("weight of a new village", x.weight(v, 0), 20);
            x.pass(1);
        }
        Check.badState(x, "a seventh join()", () -> x.join());
    }

    private static void promise6Weigh() {
        BarometerLeague x = new BarometerLeague();
        x.join();
        x.join();
        Check.badIndex(x, "weigh(0, 0, 0) without signs", () -> x.weigh(0, 0, 0));
        x.sign(0, 0);
        x.sign(1, 0);
        Check.equal("weigh(0, 1, 100)", x.weigh(0, 1, 100), 20);
        Check.equal("weigh(0, 1, 0)", x.weigh(0, 1, 0), 100);
        Check.equal("weigh(0, 1, 7)", x.weigh(0, 1, 7), 0);
        Check.equal("weight(0, 1)", x.weight(0, 1), 7);
        Check.equal("weight(0, 0) is as it was", x.weight(0, 0), 20);
        Check.equal("weight(1, 1) is as it was", x.weight(1, 1), 20);
        Check.badIndex(x, "weigh(-1, 0, 0)", () -> x.weigh(-1, 0, 0));
        Check.badIndex(x, "weigh(2, 0, 0)", () -> x.weigh(2, 0, 0));
        Check.badIndex(x, "weigh(0, -1, 0)", () -> x.weigh(0, -1, 0));
        Check.badIndex(x, "weigh(0, 2, 0)", () -> x.weigh(0, 2, 0));
        Check.badArgument(x, "weigh(0, 0, -1)", () -> x.weigh(0, 0, -1));
        Check.badArgument(x, "weigh(0, 0, 101)", () -> x.weigh(0, 0, 101));
        Check.badIndex(x, "weigh(2, 0, 101), the village first", () -> x.weigh(2, 0, 101));
        Check.badIndex(x, "weigh(0, 2, 101), the sign first", () -> x.weigh(0, 2, 101));
    }

    private static void promise7Share() {
        BarometerLeague x = new BarometerLeague();
        x.join();
        x.join();
        x.join();
        x.sign(0, 0);
        x.sign(1, 0);
        x.weigh(0, 0, 1);
        x.weigh(1, 0, 90);
        x.weigh(1, 1, 21);
        Check.equal("share(0, 1)", x.share(0, 1), 5);
        Check.equal("(1 + 90) / 2, cut", x.weight(0, 0), 45);
        Check.equal("(20 + 21) / 2, cut", x.weight(0, 1), 20);
        Check.equal("the other one's weights stay", x.weight(1, 0), 90);
        Check.equal("and this one too", x.weight(1, 1), 21);
        Check.equal("the other one gets 5 coins", x.about(1, 1), 15);
        Check.equal("a third one gets none", x.about(2, 1), 10);
        Check.equal("its weights stay", x.weight(2, 0), 20);
        Check.equal("share(0, 2) with just 5 coins", x.share(0, 2), 0);
        x.sign(2, 0);
        Check.equal("a sign told later weighs 20", x.weight(0, 2), 20);
        Check.badState(x, "share(0, 1) without coins", () -> x.share(0, 1));
        Check.badArgument(x, "share(1, 1)", () -> x.share(1, 1));
        Check.badArgument(x, "share(0, 0) without coins, the same first", () -> x.share(0, 0));
        Check.badIndex(x, "share(-1, 0)", () -> x.share(-1, 0));
        Check.badIndex(x, "share(3, 0)", () -> x.share(3, 0));
        Check.badIndex(x, "share(1, -1)", () -> x.share(1, -1));
        Check.badIndex(x, "share(0, 3) without coins, the index first", () -> x.share(0, 3));
        Check.badIndex(x, "share(3, 3), the index first", () -> x.share(3, 3));
        shareWithFourCoins();
    }

    private static void shareWithFourCoins() {
        BarometerLeague x = new BarometerLeague();
        x.join();
        x.join();
        for (int day = 0; day < 6; day++) {
            x.setRain(day, true);
        }
        // Without signs each guess is dry, so that six rainy days cost six coins.
        x.pass(6);
        Check.equal("coins", x.about(0, 1), 4);
        Check.badState(x, "share(0, 1) with 4 coins", () -> x.share(0, 1));
        x.pass(1);
        Check.equal("share(0, 1) with 5 coins", x.share(0, 1), 0);
    }

    public static void main(String[] args) {
        promise1NewObject();
        promise2SetGlass();
        promise3SetRain();
        promise4Sign();
        promise5Join();
        promise6Weigh();
        promise7Share();
        Check.finish();
    }
}
