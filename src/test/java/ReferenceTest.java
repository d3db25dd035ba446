import java.util.function.Supplier;

/** Long runs of calls, good and bad ones, on the program and on the reference: every answer is the same. */
public final class ReferenceTest {
    private static final int RUNS = 150;
    private static final int CALLS = 512;

    private static long seed = 1;

    private static int below(int bound) {
        seed = seed * 6364136223846793005L + 1442695040888963407L;
        return (int) ((seed >>> 33) % bound);
    }

    /** Mostly 0 to most, now and then just outside, seldom far outside. */
    private static int around(int most) {
        int lot = below(60);
        if (lot == 0) {
            return below(2) == 0 ? Integer.MIN_VALUE : Integer.MAX_VALUE;
        }
        if (lot <= 2) {
            return lot == 1 ? -1 : most + 1;
        }
        if (lot <= 5) {
            return lot == 3 ? 0 : most;
        }
        return below(most + 1);
    }

    private static Object answer(Supplier<Object> call) {
        try {
            return call.get();
        } catch (RuntimeException e) {
            return "throws." + e.getClass().getSimpleName();
        }
    }

    private static void same(String call, Supplier<Object> program, Supplier<Object> reference) {
        Check.equal(call, answer(program), answer(reference));
    }

    private static void oneCall(BarometerLeague x, ReferenceLeague y, int villages, int signs) {
        int kind = below(40);
        int v = around(villages);
        int s = around(signs);
        int a = around(60);
        int d = around(11);
        if (kind < 5) {
            same("setGlass", () -> x.setGlass(d, a), () -> y.setGlass(d, a));
        } else if (kind < 8) {
            boolean rains = below(2) == 0;
            same("setRain", () -> x.setRain(d, rains), () -> y.setRain(d, rains));
        } else if (kind < 10) {
            int k = around(5);
            same("sign", () -> x.sign(k, a), () -> y.sign(k, a));
        } else if (kind < 12) {
            same("join", () -> x.join(), () -> y.join());
        } else if (kind < 15) {
            int w = around(100);
            same("weigh", () -> x.weigh(v, s, w), () -> y.weigh(v, s, w));
        } else if (kind < 17) {
            int from = around(villages);
            same("share", () -> x.share(v, from), () -> y.share(v, from));
        } else if (kind < 20) {
            int on = around(999);
            same("says", () -> x.says(s, on), () -> y.says(s, on));
        } else if (kind < 22) {
            int what = around(3);
            same("told", () -> x.told(s, what), () -> y.told(s, what));
        } else if (kind < 23) {
            same("weight", () -> x.weight(v, s), () -> y.weight(v, s));
        } else if (kind < 26) {
            int what = around(6);
            same("about", () -> x.about(v, what), () -> y.about(v, what));
        } else {
            laterCall(x, y, villages, kind);
        }
    }

    private static void laterCall(BarometerLeague x, ReferenceLeague y, int villages, int kind) {
        int v = around(villages);
        if (kind < 28) {
            int place = around(villages + 1);
            same("at", () -> x.at(place), () -> y.at(place));
        } else if (kind < 29) {
            int what = around(6);
            same("count", () -> x.count(what), () -> y.count(what));
        } else if (kind < 32) {
            int days = below(4) == 0 ? around(90) : around(6);
            same("pass", () -> x.pass(days), () -> y.pass(days));
        } else if (kind < 34) {
            int days = around(90);
            int what = 2 + around(4);
            same("foresee", () -> x.foresee(days, what), () -> y.foresee(days, what));
        } else if (kind < 36) {
            int other = around(villages);
            same("overtakes", () -> x.overtakes(v, other), () -> y.overtakes(v, other));
        } else if (kind < 38) {
            int days = around(60);
            same("advise", () -> x.advise(v, days), () -> y.advise(v, days));
        } else if (kind < 39) {
            same("best", () -> x.best(), () -> y.best());
        } else {
            same("mean", () -> x.mean(), () -> y.mean());
        }
    }

    public static void main(String[] args) {
        for (int run = 0; run < RUNS; run++) {
            BarometerLeague x = new BarometerLeague();
            ReferenceLeague y = new ReferenceLeague();
            for (int call = 0; call < CALLS / 2; call++) {
                int villages = Math.max(0, y.folks.size() - 1);
                int signs = Math.max(0, y.signs.size() - 1);
                oneCall(x, y, villages, signs);
                Check.equal("digest() in run " + run, x.digest(), y.digest());
            }
        }
        Check.finish();
    }
}
