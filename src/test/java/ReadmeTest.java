/** The example of README.md, call by call in its order: each answers what stands behind it there. */
public final class ReadmeTest {
    public static void main(String[] args) {
        BarometerLeague league = new BarometerLeague();
        int hill = league.join();
        int dale = league.join();
        int low = league.sign(1, 25);
        int always = league.sign(5, 0);
        Check.equal("hill", hill, 0);
        Check.equal("dale", dale, 1);
        Check.equal("low", low, 0);
        Check.equal("always", always, 1);
        Check.equal("setGlass(3, 20)", league.setGlass(3, 20), 30);
        Check.equal("setRain(3, true)", league.setRain(3, true), false);
        Check.equal("says(low, 15)", league.says(low, 15), true);
        Check.equal("best()", league.best(), 0);
        Check.equal("weigh(dale, always, 60)", league.weigh(dale, always, 60), 20);
        Check.equal("foresee(12, 3)", league.foresee(12, 3), 20);
        Check.equal("overtakes(dale, hill)", league.overtakes(dale, hill), -1);
        Check.equal("advise(dale, 12)", league.advise(dale, 12), 1);
        Check.equal("pass(12)", league.pass(12), 20);
        Check.equal("about(dale, 0)", league.about(dale, 0), 8);
        Check.equal("at(1)", league.at(1), 0);
        Check.equal("share(dale, hill)", league.share(dale, hill), 27);
        Check.equal("mean()", league.mean(), 10.0);
        Check.finish();
    }
}
