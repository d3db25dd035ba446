import java.util.ArrayList;
import java.util.List;
import java.util.function.Supplier;

/** Two leagues that are made alike; one refuses calls of every kind, and then both go on alike. */
public final class RefusedCallsTest {
    private static final int MIN = Integer.MIN_VALUE;
    private static final int MAX = Integer.MAX_VALUE;

    private static Object answer(Supplier<Object> call) {
        try {
            return call.get();
        } catch (RuntimeException e) {
            return e.getClass();
        }
    }

    private static void index(BarometerLeague x, Supplier<Object> call) {
        Check.badIndex(x, "a call", call);
    }

    private static void argument(BarometerLeague x, Supplier<Object> call) {
        Check.badArgument(x, "a call", call);
    }

    private static void refuseAll(BarometerLeague x) {
        for (int day : new int[] {-1, 12, MIN, MAX}) {
            index(x, () -> x.setGlass(day, 1));
            index(x, () -> x.setRain(day, true));
        }
        for (int village : new int[] {-1, 6, MIN, MAX}) {
            index(x, () -> x.weigh(village, 0, 1));
            index(x, () -> x.share(village, 0));
            index(x, () -> x.share(0, village));
            index(x, () -> x.weight(village, 0));
            index(x, () -> x.about(village, 0));
            index(x, () -> x.overtakes(village, 0));
            index(x, () -> x.overtakes(0, village));
            index(x, () -> x.advise(village, 60));
        }
        for (int sign : new int[] {-1, 8, MIN, MAX}) {
            index(x, () -> x.weigh(0, sign, 1));
            index(x, () -> x.says(sign, 0));
            index(x, () -> x.told(sign, 0));
            index(x, () -> x.weight(0, sign));
        }
        for (int what : new int[] {-1, 7, MIN, MAX}) {
            index(x, () -> x.told(0, what));
            index(x, () -> x.about(0, what));
            index(x, () -> x.at(what));
            index(x, () -> x.count(what));
            index(x, () -> x.foresee(90, what));
        }
        for (int number : new int[] {-1, 101, MIN, MAX}) {
            argument(x, () -> x.setGlass(0, number));
            argument(x, () -> x.sign(number, 0));
            argument(x, () -> x.sign(0, number));
            argument(x, () -> x.weigh(0, 0, number));
            argument(x, () -> x.says(0, number == 101 ? 1000 : number));
            argument(x, () -> x.pass(number));
            argument(x, () -> x.foresee(number, 3));
            argument(x, () -> x.advise(0, number));
        }
        argument(x, () -> x.share(1, 1));
        argument(x, () -> x.overtakes(1, 1));
    }

    /** What two alike leagues answer to the same calls, also to those that show what the digest does not tell. */
    private static void goOnAlike(BarometerLeague x, BarometerLeague y) {
        List<Supplier<Object>> ofX = calls(x);
        List<Supplier<Object>> ofY = calls(y);
        for (int i = 0; i < ofX.size(); i++) {
            Check.equal("call " + i + " later", answer(ofX.get(i)), answer(ofY.get(i)));
            Check.equal("digest() behind the call " + i, x.digest(), y.digest());
        }
    }

    private static List<Supplier<Object>> calls(BarometerLeague x) {
        List<Supplier<Object>> all = new ArrayList<>();
        for (int i = 0; i < 8; i++) {
            int n = i;
            all.add(() -> x.sign(n % 6, n));
            all.add(() -> x.join());
            all.add(() -> x.share(n % 3, 3));
            all.add(() -> x.pass(n + 1));
            all.add(() -> x.foresee(90, 3 + n % 3));
            all.add(() -> x.overtakes(n % 2, 2));
            all.add(() -> x.advise(n % 3, 60));
            all.add(() -> x.best());
            all.add(() -> x.mean());
        }
        return all;
    }

    private static BarometerLeague half() {
        BarometerLeague x = Leagues.of(4, 1, 20, 2, 0, 3, 5);
        Leagues.rainOn(x, 1, 2, 8);
        x.setGlass(3, 10);
        x.weigh(2, 1, 90);
        x.pass(7);
        return x;
    }

    private static void refusedCallsChangeNothing() {
        Check.sentence("A method that throws an exception changes nothing");
        BarometerLeague x = half();
        refuseAll(x);
        goOnAlike(x, half());
    }

    private static void refusedCallsOfAFullLeague() {
        Check.sentence("A method that throws an exception changes nothing (with 8 signs and 6 villages)");
        BarometerLeague x = Leagues.full();
        refuseAll(x);
        Check.badState(x, "sign(5, 0)", () -> x.sign(5, 0));
        Check.badState(x, "join()", () -> x.join());
        goOnAlike(x, Leagues.full());
    }

    private static void refusedSharing() {
        Check.sentence("A method that throws an exception changes nothing (share() with too few coins)");
        BarometerLeague x = half();
        BarometerLeague y = half();
        while (x.about(2, 1) >= 5) {
            x.share(2, 0);
            y.share(2, 0);
        }
        x.weigh(2, 0, 100);
        y.weigh(2, 0, 100);
        Check.badState(x, "share(2, 1)", () -> x.share(2, 1));
        goOnAlike(x, y);
    }

    public static void main(String[] args) {
        refusedCallsChangeNothing();
        refusedCallsOfAFullLeague();
        refusedSharing();
        Check.finish();
    }
}
