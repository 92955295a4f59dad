/** Promise 1, and what the terms say of the beginning. */
final class NewObjectTest {
    public static void main(String[] args) {
        for (int loop = 0; loop < 3; loop++) {
            signalsAreZero(loop);
            settingsAreThoseOfTheTerms(loop);
            plantIsThatOfTheTerms(loop);
            limitsAreThoseOfTheTerms(loop);
        }
        objectsAreApart();
        Bench.finish();
    }

    private static void signalsAreZero(int loop) {
        Bench b = new Bench("promise 1, signals of loop " + loop);
        for (String call : new String[] {"measure", "output", "outputByIncrements", "setpoint", "integral", "mode",
            "wasStarved", "held", "experiment"}) {
            b.due(0, call, loop);
        }
        b.refused(Bench.STATE, "period", loop);
        b.refused(Bench.STATE, "swing", loop);
        b.refused(Bench.STATE, "ultimateGain", loop);
        b.refused(Bench.STATE, "proposed", loop, 0, 0);
    }

    private static void settingsAreThoseOfTheTerms(int loop) {
        Bench b = new Bench("promise 1, settings of loop " + loop);
        b.due(1000, "gain", loop, 0);
        b.due(100, "gain", loop, 1);
        b.due(0, "gain", loop, 2);
        b.due(0, "setLoad", loop, 7);
        b.due(0, "setGuard", loop, 1, 1);
        b.due(0, "setSetpoint", loop, 7);
        b.due(0, "setHand", loop, 7);
        b.due(0, "setGains", loop, 1, 1, 1);
        b.due(1, "addPoint", loop, -1000000, 1, 1, 1);
        b.due(0, "setMode", loop, 0);
        b.refused(Bench.STATE, "setMode", loop, 2);
        b.due(1, "run", 1);
        b.due(7, "setpoint", loop);
    }

    private static void plantIsThatOfTheTerms(int loop) {
        Bench b = new Bench("promise 1, plant of loop " + loop);
        b.due(0, "setHand", loop, 5000);
        b.due(1, "run", 1);
        b.due(1000, "measure", loop);
        b.due(2, "run", 1);
        b.due(1800, "measure", loop);
        b.due(3, "run", 1);
        b.due(2440, "measure", loop);
    }

    private static void limitsAreThoseOfTheTerms(int loop) {
        Bench b = new Bench("promise 1, limits of loop " + loop);
        b.due(0, "setHand", loop, -1);
        b.due(1, "run", 1);
        b.due(0, "output", loop);
        b.due(-1, "setHand", loop, 100000);
        b.due(2, "run", 1);
        b.due(100000, "output", loop);
        b.due(100000, "setHand", loop, 100001);
        b.due(3, "run", 1);
        b.due(100000, "output", loop);
    }

    private static void objectsAreApart() {
        Bench one = new Bench("promise 1, one object");
        Bench other = new Bench("promise 1, another object");
        one.due(0, "setHand", 0, 5000);
        one.due(200, "run", 200);
        other.due(0, "measure", 0);
        other.due(1, "run", 1);
        other.due(0, "output", 0);
    }
}
