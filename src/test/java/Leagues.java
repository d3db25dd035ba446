/** Leagues that several tests start from. */
final class Leagues {
    private Leagues() {
    }

    /** So many villages, and a sign for each pair of a kind and a number. */
    static BarometerLeague of(int villages, int... kindsAndNumbers) {
        BarometerLeague x = new BarometerLeague();
        for (int v = 0; v < villages; v++) {
            x.join();
        }
        for (int i = 0; i + 1 < kindsAndNumbers.length; i += 2) {
            x.sign(kindsAndNumbers[i], kindsAndNumbers[i + 1]);
        }
        return x;
    }

    static void rainOn(BarometerLeague x, int... days) {
        for (int day : days) {
            x.setRain(day, true);
        }
    }

    static void rainOnEachDay(BarometerLeague x) {
        for (int day = 0; day < 12; day++) {
            x.setRain(day, true);
        }
    }

    /** 6 villages and 8 signs, each weight, glass and coin its own, behind some days. */
    static BarometerLeague full() {
        BarometerLeague x = of(6, 0, 0, 1, 60, 2, 30, 3, 4, 4, 0, 5, 60, 0, 5, 1, 25);
        for (int v = 0; v < 6; v++) {
            for (int s = 0; s < 8; s++) {
                x.weigh(v, s, (v * 37 + s * 13) % 101);
            }
        }
        for (int day = 0; day < 12; day++) {
            x.setGlass(day, day * 23 % 61);
            x.setRain(day, day % 3 == 1);
        }
        x.share(5, 0);
        x.share(4, 0);
        x.pass(10);
        return x;
    }

    /** Two villages; 1 comes to stand better than 0 behind 123 days, and not before. */
    static BarometerLeague lateOvertaking() {
        BarometerLeague x = of(2, 3, 6, 1, 3);
        rainOn(x, 1, 3);
        x.setGlass(5, 32);
        x.setGlass(4, 27);
        x.setGlass(2, 1);
        x.weigh(1, 1, 6);
        x.weigh(0, 0, 74);
        return x;
    }

    /** One village; without the sign 1 it has more points behind 60 days, and not before. */
    static BarometerLeague lateAdvice() {
        BarometerLeague x = of(1, 2, 0, 4, 0, 5, 0);
        rainOn(x, 1);
        x.setGlass(11, 5);
        x.weigh(0, 0, 38);
        return x;
    }
}
