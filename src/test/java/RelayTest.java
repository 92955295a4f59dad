/** Promises 22 to 27: relay experiments, and what they tell. */
final class RelayTest {
    public static void main(String[] args) {
        wholeExperiment();
        bandBelow();
        bandAbove();
        beginsUpAndStaysUpWithoutAnError();
        centerIsTheLatestOutput();
        outputIsHeldWithinLimits();
        riseIsNoNewRiseWhileItIsUp();
        swingIsFromTheThirdToTheFourth();
        periodIsRoundedDown();
        swingOfZero();
        doneAtTheLastSample();
        failedAtTheLastSample();
        samplesOfAnEarlierExperimentDoNotCount();
        givenUp();
        newExperimentForgets();
        setpointsAndLimitsMayChange();
        gainsStay();
        settledAtACenterBeyondTheLimits();
        proposalsAreHeld();
        proposalsOfEachRule();
        masterInRelay();
        loopsAreApart();
        Bench.finish();
    }

    /** A loop whose measure is its latest output, in automatic at the output 0. */
    private static Bench echo(String title) {
        Bench b = new Bench(title);
        b.done("setPlant", 0, 0, 0, 1000, 0);
        b.done("setLimits", 0, -1000000, 1000000);
        b.due(0, "setMode", 0, 1);
        return b;
    }

    private static void wholeExperiment() {
        Bench b = echo("promises 22 to 27, a whole experiment");
        b.due(0, "setGains", 0, 1000, 100, 10);
        b.done("startRelay", 0, 100, 0);
        b.due(3, "mode", 0);
        b.due(1, "experiment", 0);
        for (int k = 1; k <= 8; k++) {
            b.due(k, "run", 1);
            b.due(k % 2 == 1 ? 100 : -100, "output", 0);
            b.due(3, "mode", 0);
            b.due(1, "experiment", 0);
            b.refused(Bench.STATE, "period", 0);
            b.refused(Bench.STATE, "swing", 0);
            b.refused(Bench.STATE, "ultimateGain", 0);
            b.refused(Bench.STATE, "proposed", 0, 0, 0);
        }
        b.due(0, "integral", 0);
        b.due(9, "run", 1);
        b.due(100, "output", 0);
        b.due(1, "mode", 0);
        b.due(2, "experiment", 0);
        b.due(2, "period", 0);
        b.due(200, "swing", 0);
        b.due(1273, "ultimateGain", 0);
        // Settled at 0 with the error 100 and the rate 200.
        b.due(-102000, "integral", 0);
        b.due(0, "outputByIncrements", 0);
        b.due(100, "measure", 0);
        b.due(10, "run", 1);
        // Error -100, rate -200: -100000, -112000 and -2000.
        b.due(-214, "output", 0);
        b.due(-214, "outputByIncrements", 0);
        b.due(2, "experiment", 0);
        b.due(1, "setMode", 0, 0);
        b.due(2, "experiment", 0);
        b.due(2, "period", 0);
    }

    private static void bandBelow() {
        Bench b = echo("promise 22, the band below");
        b.done("startRelay", 0, 100, 100);
        b.due(3, "run", 3);
        b.due(100, "output", 0);
        b.due(3, "setMode", 0, 0);
        Bench c = echo("promise 22, just out of the band below");
        c.done("startRelay", 0, 100, 99);
        c.due(1, "run", 1);
        c.due(100, "output", 0);
        c.due(2, "run", 1);
        c.due(-100, "output", 0);
    }

    private static void bandAbove() {
        Bench b = echo("promise 22, the band above");
        b.due(0, "setSetpoint", 0, -1);
        b.done("startRelay", 0, 100, 99);
        b.due(2, "run", 2);
        b.due(-100, "output", 0);
        // The error is 99, not above the band.
        b.due(5, "run", 3);
        b.due(-100, "output", 0);
        b.due(-1, "setSetpoint", 0, 0);
        b.due(6, "run", 1);
        b.due(100, "output", 0);
    }

    private static void beginsUpAndStaysUpWithoutAnError() {
        Bench b = Steering.begun("promise 22, up at first", 40);
        b.due(3, "run", 3);
        b.due(40, "output", 0);
        Steering.steer(b, Steering.DOWN, 0);
        b.due(-40, "output", 0);
        Steering.steer(b, 0, 0);
        b.due(-40, "output", 0);
        b.due(3, "setMode", 0, 0);
        b.due(0, "setMode", 0, 1);
        b.done("startRelay", 0, 5, 0);
        Steering.steer(b, 0, 0);
        b.due(-35, "output", 0);
    }

    private static void centerIsTheLatestOutput() {
        Bench b = new Bench("promise 22, the center");
        b.due(0, "setHand", 0, 12345);
        b.due(1, "run", 1);
        b.due(12345, "setHand", 0, 7);
        b.due(0, "setMode", 0, 1);
        b.done("startRelay", 0, 1000, 100000);
        b.due(12345, "output", 0);
        b.due(2, "run", 1);
        b.due(13345, "output", 0);
        Bench c = new Bench("promise 22, the center ahead of the first sample");
        c.due(0, "setSetpoint", 0, 5);
        c.due(0, "setMode", 0, 1);
        c.done("startRelay", 0, 100000, 0);
        c.due(1, "run", 1);
        c.due(100000, "output", 0);
    }

    private static void outputIsHeldWithinLimits() {
        Bench b = Steering.begun("promise 22, limits", 1000);
        b.done("setLimits", 0, -300, 200);
        Steering.steer(b, Steering.UP, 0);
        b.due(200, "output", 0);
        Steering.steer(b, Steering.DOWN, 0);
        b.due(-300, "output", 0);
        b.due(0, "held", 0);
        Steering.steer(b, Steering.UP, 10);
        Steering.rise(b, 3);
        b.due(2, "experiment", 0);
        // The height is what was asked for, whatever the limits left of it.
        b.due(0, "swing", 0);
    }

    private static void riseIsNoNewRiseWhileItIsUp() {
        Bench b = Steering.begun("promise 22, rises", 10);
        for (int n = 0; n < 10; n++) {
            Steering.steer(b, Steering.UP, 0);
        }
        b.due(1, "experiment", 0);
        Steering.steer(b, Steering.DOWN, 0);
        Steering.steer(b, Steering.DOWN, 0);
        Steering.steer(b, Steering.UP, 0);
        Steering.steer(b, Steering.UP, 0);
        Steering.rise(b, 2);
        b.due(1, "experiment", 0);
        Steering.rise(b, 1);
        b.due(2, "experiment", 0);
        b.due(2, "period", 0);
    }

    private static void swingIsFromTheThirdToTheFourth() {
        Bench b = Steering.begun("promise 25, the greatest at the third", 10);
        Steering.steer(b, Steering.UP, 9000);
        Steering.rise(b, 2);
        Steering.steer(b, Steering.DOWN, 1000);
        Steering.steer(b, Steering.UP, 300);
        Steering.steer(b, Steering.DOWN, 800);
        Steering.steer(b, Steering.DOWN, -7000);
        Steering.steer(b, Steering.UP, 5);
        b.due(2, "experiment", 0);
        b.due(700, "swing", 0);
        b.due(2, "period", 0);
        Bench c = Steering.begun("promise 25, the least at the third", 10);
        Steering.steer(c, Steering.DOWN, -9000);
        Steering.steer(c, Steering.UP, 0);
        Steering.rise(c, 1);
        Steering.steer(c, Steering.DOWN, -1000);
        Steering.steer(c, Steering.UP, -300);
        Steering.steer(c, Steering.UP, -800);
        Steering.steer(c, Steering.DOWN, 7000);
        Steering.steer(c, Steering.UP, 5);
        c.due(700, "swing", 0);
        Bench d = Steering.begun("promise 25, greatest and least between", 10);
        Steering.rise(d, 2);
        Steering.steer(d, Steering.DOWN, 100);
        Steering.steer(d, Steering.UP, 10000);
        Steering.steer(d, Steering.UP, -10000);
        Steering.steer(d, Steering.DOWN, 20);
        Steering.steer(d, Steering.UP, 5);
        d.due(20000, "swing", 0);
    }

    private static void periodIsRoundedDown() {
        Bench b = Steering.begun("promise 24, rounding", 10);
        Steering.rise(b, 2);
        Steering.steer(b, Steering.DOWN, 0);
        Steering.rise(b, 2);
        b.due(2, "experiment", 0);
        // The fourth at the sample 8 from the start, the second at 3.
        b.due(2, "period", 0);
        Bench c = Steering.begun("promise 24, a first rise that does not count", 10);
        Steering.rise(c, 1);
        for (int n = 0; n < 9; n++) {
            Steering.steer(c, Steering.DOWN, 0);
        }
        Steering.rise(c, 2);
        for (int n = 0; n < 7; n++) {
            Steering.steer(c, Steering.UP, 0);
        }
        Steering.rise(c, 1);
        c.due(5, "period", 0);
    }

    private static void swingOfZero() {
        Bench b = Steering.begun("promises 25 to 27, no swing", 10);
        Steering.rise(b, 4);
        b.due(2, "experiment", 0);
        b.due(2, "period", 0);
        b.due(0, "swing", 0);
        b.refused(Bench.STATE, "ultimateGain", 0);
        b.refused(Bench.STATE, "proposed", 0, 0, 0);
        b.refused(Bench.STATE, "proposed", 0, 1, 2);
        b.refused(Bench.ARGUMENT, "proposed", 0, 2, 2);
        b.refused(Bench.INDEX, "proposed", 0, 2, 3);
    }

    private static void doneAtTheLastSample() {
        Bench b = Steering.begun("promise 23, done at the 400th sample", 10);
        Steering.rise(b, 3);
        Steering.steer(b, Steering.DOWN, 0);
        b.due(200, "run", 193);
        b.due(399, "run", 199);
        b.due(1, "experiment", 0);
        b.due(3, "mode", 0);
        Steering.steer(b, Steering.UP, 0);
        b.due(2, "experiment", 0);
        b.due(10, "output", 0);
        b.due(1, "mode", 0);
        // The second rise at the 4th sample, the fourth at the 400th.
        b.due(198, "period", 0);
    }

    private static void failedAtTheLastSample() {
        Bench b = Steering.begun("promise 23, failed at the 400th sample", 10);
        Steering.rise(b, 3);
        Steering.steer(b, Steering.DOWN, 0);
        b.due(200, "run", 193);
        b.due(399, "run", 199);
        b.due(1, "experiment", 0);
        Steering.steer(b, Steering.DOWN, 250);
        b.due(3, "experiment", 0);
        b.due(-10, "output", 0);
        b.due(1, "mode", 0);
        b.due(250, "measure", 0);
        // Settled at 0 with the error -900000 of the 400th sample, in which the measure was 0.
        b.due(900000000, "integral", 0);
        b.refused(Bench.STATE, "period", 0);
        b.refused(Bench.STATE, "swing", 0);
        b.refused(Bench.STATE, "ultimateGain", 0);
        b.refused(Bench.STATE, "proposed", 0, 0, 0);
        Steering.steer(b, Steering.UP, 0);
        b.due(3, "experiment", 0);
        b.due(1, "setMode", 0, 0);
        b.due(3, "experiment", 0);
    }

    private static void samplesOfAnEarlierExperimentDoNotCount() {
        Bench b = Steering.begun("promise 22, counted from its own start", 10);
        b.due(200, "run", 200);
        Steering.rise(b, 3);
        b.due(3, "setMode", 0, 0);
        b.due(0, "setMode", 0, 1);
        b.done("startRelay", 0, 10, 0);
        Steering.rise(b, 3);
        b.due(1, "experiment", 0);
        b.due(406, "run", 194);
        b.due(605, "run", 199);
        b.due(1, "experiment", 0);
        b.due(606, "run", 1);
        b.due(3, "experiment", 0);
    }

    private static void givenUp() {
        Bench b = Steering.begun("promise 23, given up", 10);
        Steering.steer(b, Steering.DOWN, 0);
        b.due(3, "setMode", 0, 0);
        b.due(0, "experiment", 0);
        b.refused(Bench.STATE, "period", 0);
        b.due(-10, "setHand", 0, -20);
        b.due(2, "run", 1);
        b.due(-20, "output", 0);
        b.due(0, "experiment", 0);
        b.refused(Bench.STATE, "startRelay", 0, 10, 10);
        b.due(0, "experiment", 0);
    }

    private static void newExperimentForgets() {
        Bench b = Steering.begun("promise 22, the one before is forgotten", 10);
        Steering.rise(b, 4);
        b.due(2, "experiment", 0);
        b.done("startRelay", 0, 10, 0);
        b.due(1, "experiment", 0);
        b.refused(Bench.STATE, "period", 0);
        b.refused(Bench.STATE, "swing", 0);
        Steering.rise(b, 3);
        b.due(1, "experiment", 0);
        b.due(3, "setMode", 0, 0);
        b.due(0, "experiment", 0);
        b.refused(Bench.STATE, "period", 0);
    }

    private static void setpointsAndLimitsMayChange() {
        Bench b = Steering.begun("promise 22, what may change meanwhile", 10);
        b.due(0, "setSetpoint", 0, 5);
        b.done("setLimits", 0, 0, 4);
        b.due(0, "setGuard", 0, 2, 10);
        b.done("setTies", 0, 1, 0);
        b.done("setPlant", 0, 1, 1, 1, 1);
        b.due(0, "setLoad", 0, 3);
        b.due(1, "addPoint", 0, 3, 1, 1, 1);
        b.refused(Bench.STATE, "setHand", 0, 1);
        b.refused(Bench.STATE, "setGains", 0, 1, 1, 1);
        b.refused(Bench.STATE, "setMode", 0, 1);
        b.refused(Bench.STATE, "startRelay", 0, 1, 1);
        b.due(1, "run", 1);
        b.due(4, "output", 0);
        b.due(1, "experiment", 0);
    }

    private static void gainsStay() {
        Bench b = Steering.begun("promise 22, no automatic samples", 10);
        b.due(1, "addPoint", 0, 0, 5, 5, 5);
        b.due(0, "setSetpoint", 0, 100);
        b.due(10, "run", 10);
        b.due(0, "integral", 0);
        b.due(1000, "gain", 0, 0);
        b.due(0, "outputByIncrements", 0);
        b.due(0, "held", 0);
    }

    private static void settledAtACenterBeyondTheLimits() {
        Bench b = new Bench("promise 22, settled at the center");
        b.done("setPlant", 0, 0, 0, 0, 0);
        b.due(0, "setHand", 0, 5000);
        b.due(1, "run", 1);
        b.due(0, "setMode", 0, 1);
        b.done("startRelay", 0, 100, 0);
        b.done("setLimits", 0, 0, 50);
        Steering.rise(b, 4);
        b.due(2, "experiment", 0);
        b.due(50, "output", 0);
        // 5000, less 900000 by the error.
        b.due(5000000 - 900000000, "integral", 0);
    }

    private static void proposalsAreHeld() {
        Bench b = Steering.told("promise 27, held at the most", 100000, 1);
        b.due(254647887, "ultimateGain", 0);
        for (int rule = 0; rule < 2; rule++) {
            b.due(20000, "proposed", 0, rule, 0);
            b.due(5000, "proposed", 0, rule, 1);
            b.due(50000, "proposed", 0, rule, 2);
        }
        Bench c = Steering.told("promise 27, nothing to propose", 1, 10000);
        c.due(0, "ultimateGain", 0);
        c.due(0, "proposed", 0, 0, 0);
        c.due(0, "proposed", 0, 1, 1);
        c.due(0, "proposed", 0, 1, 2);
    }

    private static void proposalsOfEachRule() {
        Bench b = Steering.told("promise 27, both rules", 100, 200);
        b.due(1273, "ultimateGain", 0);
        b.due(763, "proposed", 0, 0, 0);
        b.due(763, "proposed", 0, 0, 1);
        b.due(190, "proposed", 0, 0, 2);
        b.due(578, "proposed", 0, 1, 0);
        b.due(131, "proposed", 0, 1, 1);
        b.due(183, "proposed", 0, 1, 2);
        Bench c = Steering.told("promise 26, a greater swing", 7777, 9999);
        // 7030408000 through 3549645.
        c.due(1980, "ultimateGain", 0);
        c.due(1188, "proposed", 0, 0, 0);
        c.due(1188, "proposed", 0, 0, 1);
        c.due(297, "proposed", 0, 0, 2);
        c.due(900, "proposed", 0, 1, 0);
        c.due(204, "proposed", 0, 1, 1);
        c.due(285, "proposed", 0, 1, 2);
        Bench d = Steering.told("promise 27, next to the most", 1000, 76);
        // 904000000 through 26980.
        d.due(33506, "ultimateGain", 0);
        d.due(20000, "proposed", 0, 0, 0);
        d.due(5000, "proposed", 0, 0, 1);
        d.due(5025, "proposed", 0, 0, 2);
        d.due(15230, "proposed", 0, 1, 0);
        d.due(3461, "proposed", 0, 1, 1);
        d.due(4834, "proposed", 0, 1, 2);
    }

    private static void masterInRelay() {
        Bench b = Steering.begun("promise 22, a master in relay", 30);
        b.done("setTies", 1, 0, 1);
        b.due(0, "setMode", 1, 2);
        Steering.steer(b, Steering.UP, 0);
        b.due(30, "setpoint", 1);
        Steering.steer(b, Steering.DOWN, 0);
        b.due(-30, "setpoint", 1);
        Steering.rise(b, 4);
        b.due(2, "experiment", 0);
        b.due(30, "setpoint", 1);
    }

    private static void loopsAreApart() {
        Bench b = new Bench("promise 22, loops");
        for (int loop = 0; loop < 3; loop++) {
            b.due(0, "setMode", loop, 1);
        }
        b.done("startRelay", 2, 9, 0);
        b.due(0, "experiment", 0);
        b.due(0, "experiment", 1);
        b.due(1, "experiment", 2);
        b.done("startRelay", 0, 5, 0);
        b.due(1, "run", 1);
        b.due(5, "output", 0);
        b.due(0, "output", 1);
        b.due(9, "output", 2);
        b.due(3, "setMode", 2, 0);
        b.due(1, "experiment", 0);
        b.due(0, "experiment", 2);
    }
}
