/** What the terms say of controllers, modes, starved loops and schedules: each boundary case by itself. */
final class EdgeTermsTest {
    private static final int[] GAINS = {1000, 100};
    private static final int[] SMALL = {1, 5};

    public static void main(String[] args) {
        guardZeroDoesNothing();
        clampingAboveAndAtHigh();
        clampingBelowAndAtLow();
        clampingNeedsTheErrorOnThatSide();
        clampingWithANegativeGain();
        backCalculationAboveAndAtHigh();
        backCalculationBelowAndAtLow();
        incrementsAtTheFirstAutomaticSample();
        incrementsGoOnAtTheSecond();
        incrementsByTheRate();
        incrementsBehindHandWithoutASample();
        incrementsBehindASampleInHand();
        incrementsBehindAStarvedSample();
        incrementsBehindARelayGivenUp();
        incrementsBehindARelayThatHasEnded();
        incrementsGoOnAcrossModesThatDoNotSettle();
        handValueIsHeldWithinLimits();
        settledAtTheLatestOutput();
        toHandFromEachMode();
        setpointFollowsTheMeasureOfTheSample();
        cascadeSetsTheSetpointAtEachSample();
        starvedInEachPairOfModes();
        highestLoopIsNeverStarved();
        starvedOutputIsHeldWithinLimits();
        starvedIsSettledAtWhatIsHeld();
        withoutPointsTheGainsStay();
        onePointCountsEverywhere();
        gainsAtTheFirstAndTheLastPoint();
        gainsBetweenRoundDownAlsoWhenTheyFall();
        gainsOverTheWidestSchedule();
        gainsOverTheNarrowestSchedule();
        gainsAtAPointBetween();
        lastOfTheCallsStillAnswers();
        signalsStayWholeOverTheLongestUse();
        Bench.finish();
    }

    /** A loop 0 with the error, p, i, the guard and the limits, in automatic with the integral 0. */
    private static Bench loop(String title, int[] pi, int error, int guard, int[] limits) {
        Bench b = new Bench("terms, " + title);
        b.due(0, "setGains", 0, pi[0], pi[1], 0);
        Edge.still(b, 0);
        b.done("setLimits", 0, limits[0], limits[1]);
        b.due(0, "setGuard", 0, guard, 500);
        b.due(0, "setSetpoint", 0, error);
        return b;
    }

    private static void oneSample(Bench b, long output, long integral, long held) {
        b.ask("run", 1);
        b.due(output, "output", 0);
        b.due(integral, "integral", 0);
        b.due(held, "held", 0);
    }

    private static void guardZeroDoesNothing() {
        oneSample(loop("guard 0 above high", GAINS, 1, 0, new int[] {-9, 0}), 0, 100, 1);
        oneSample(loop("guard 0 below low", SMALL, -1, 0, new int[] {0, 9}), 0, -5, 1);
    }

    private static void clampingAboveAndAtHigh() {
        // An error of 1 makes 1 wanted.
        oneSample(loop("guard 1, 1 above high", GAINS, 1, 1, new int[] {-9, 0}), 0, 0, 1);
        oneSample(loop("guard 1 at high", GAINS, 1, 1, new int[] {-9, 1}), 1, 100, 0);
        oneSample(loop("guard 1 below high", GAINS, 1, 1, new int[] {-9, 2}), 1, 100, 0);
    }

    private static void clampingBelowAndAtLow() {
        // An error of -1 makes -1 wanted: -6 through 1000, rounded down.
        oneSample(loop("guard 1, 1 below low", SMALL, -1, 1, new int[] {0, 9}), 0, 0, 1);
        oneSample(loop("guard 1 at low", SMALL, -1, 1, new int[] {-1, 9}), -1, -5, 0);
        oneSample(loop("guard 1 above low", SMALL, -1, 1, new int[] {-2, 9}), -1, -5, 0);
    }

    private static void clampingNeedsTheErrorOnThatSide() {
        Bench above = loop("guard 1 above high with an error below 0", GAINS, 1000, 0, new int[] {-9, 0});
        above.due(1, "run", 1);
        above.due(0, "setGuard", 0, 1, 500);
        above.due(1000, "setSetpoint", 0, -1);
        oneSample(above, 0, 99900, 2);
        above.due(-1, "setSetpoint", 0, 1);
        oneSample(above, 0, 99900, 3);
        Bench below = loop("guard 1 below low with an error above 0", GAINS, -1000, 0, new int[] {0, 9});
        below.due(1, "run", 1);
        below.due(0, "setGuard", 0, 1, 500);
        below.due(-1000, "setSetpoint", 0, 1);
        oneSample(below, 0, -99900, 2);
        below.due(1, "setSetpoint", 0, -1);
        oneSample(below, 0, -99900, 3);
    }

    private static void clampingWithANegativeGain() {
        oneSample(loop("guard 1, a gain i below 0", new int[] {20000, -5}, 1, 1, new int[] {-9, 0}), 0, 0, 1);
        oneSample(loop("guard 1, a gain i below 0", new int[] {20000, -5}, 1, 1, new int[] {-9, 19}), 19, -5, 0);
    }

    private static void backCalculationAboveAndAtHigh() {
        oneSample(loop("guard 2, 1 above high", GAINS, 1, 2, new int[] {-9, 0}), 0, -400, 1);
        oneSample(loop("guard 2 at high", GAINS, 1, 2, new int[] {-9, 1}), 1, 100, 0);
        // Whatever side the error is on.
        Bench b = loop("guard 2 above high with an error below 0", GAINS, 1000, 0, new int[] {-9, 0});
        b.due(1, "run", 1);
        b.due(0, "setGuard", 0, 2, 500);
        b.due(1000, "setSetpoint", 0, -1);
        oneSample(b, 0, 99900 - 98 * 500, 2);
    }

    private static void backCalculationBelowAndAtLow() {
        oneSample(loop("guard 2, 1 below low", SMALL, -1, 2, new int[] {0, 9}), 0, 495, 1);
        oneSample(loop("guard 2 at low", SMALL, -1, 2, new int[] {-1, 9}), -1, -5, 0);
    }

    /** Clamped, so that the sum stays 1100000 while the sum by increments grows by 100000 a sample. */
    private static Bench growing(String title) {
        Bench b = loop(title, GAINS, 1000, 1, new int[] {0, 0});
        b.due(2, "run", 2);
        b.due(1200, "outputByIncrements", 0);
        b.due(0, "integral", 0);
        return b;
    }

    private static void next(Bench b, long increments) {
        b.ask("run", 1);
        b.due(increments, "outputByIncrements", 0);
    }

    private static void incrementsAtTheFirstAutomaticSample() {
        Bench b = loop("increments, the first automatic sample", GAINS, 1000, 1, new int[] {0, 0});
        b.due(0, "outputByIncrements", 0);
        next(b, 1100);
        Bench hand = new Bench("terms, increments ahead of it");
        hand.due(0, "setHand", 0, 5000);
        hand.due(0, "setSetpoint", 0, 5000);
        hand.due(3, "run", 3);
        hand.due(0, "outputByIncrements", 0);
        hand.due(0, "setMode", 0, 1);
        hand.due(0, "outputByIncrements", 0);
        hand.due(4, "run", 1);
        hand.answerDue(hand.ask("output", 0), "outputByIncrements", 0);
    }

    private static void incrementsGoOnAtTheSecond() {
        Bench b = growing("increments, the samples behind the first");
        next(b, 1300);
        b.due(1000, "setSetpoint", 0, 2000);
        // p by the 1000 that the error has grown, and i by the error.
        next(b, 1300 + 1000 + 200);
        b.due(2000, "setSetpoint", 0, 2000);
        next(b, 2700);
    }

    private static void incrementsByTheRate() {
        Bench b = new Bench("terms, increments by the rate");
        b.due(0, "setGains", 0, 0, 0, 1000);
        Edge.still(b, 0);
        next(b, 0);
        b.due(0, "setLoad", 0, -3);
        next(b, 0);
        // The rate goes from 0 to 3, stays, and goes back.
        next(b, 3);
        b.due(-3, "setLoad", 0, 0);
        next(b, 3);
        next(b, 0);
    }

    private static void incrementsBehindHandWithoutASample() {
        Bench b = growing("increments, settled between two samples");
        b.due(1, "setMode", 0, 0);
        b.due(0, "setMode", 0, 1);
        b.due(1200, "outputByIncrements", 0);
        next(b, 100);
        next(b, 200);
    }

    private static void incrementsBehindASampleInHand() {
        Bench b = growing("increments behind a sample in hand");
        b.due(1, "setMode", 0, 0);
        next(b, 1200);
        b.due(0, "setMode", 0, 1);
        next(b, 100);
    }

    private static void incrementsBehindAStarvedSample() {
        Bench b = growing("increments behind a starved sample");
        b.done("setTies", 1, 0, 1);
        next(b, 1200);
        b.due(1, "wasStarved", 0);
        b.done("setTies", 1, 0, 0);
        next(b, 100);
        next(b, 200);
    }

    private static void incrementsBehindARelayGivenUp() {
        Bench b = growing("increments behind a relay given up");
        b.done("startRelay", 0, 1, 0);
        b.due(3, "setMode", 0, 0);
        b.due(0, "setMode", 0, 1);
        next(b, 100);
    }

    private static void incrementsBehindARelayThatHasEnded() {
        Bench b = growing("increments behind a relay that has failed");
        b.done("startRelay", 0, 1, 0);
        b.due(202, "run", 200);
        b.due(402, "run", 200);
        b.due(3, "experiment", 0);
        b.due(1200, "outputByIncrements", 0);
        next(b, 100);
        next(b, 200);
    }

    private static void incrementsGoOnAcrossModesThatDoNotSettle() {
        Bench b = new Bench("terms, increments from automatic to cascade and back");
        b.done("setTies", 1, 0, 1);
        Edge.still(b, 1);
        b.done("setLimits", 1, 0, 0);
        b.due(0, "setGuard", 1, 1, 0);
        b.due(0, "setSetpoint", 1, 1000);
        b.due(0, "setHand", 0, 1000);
        long due = 1100;
        int mode = 1;
        for (int next : new int[] {1, 2, 2, 1, 2}) {
            b.ask("run", 1);
            b.due(due, "outputByIncrements", 1);
            b.due(mode, "setMode", 1, next);
            b.refused(Bench.ARGUMENT, "setMode", 1, 3);
            due += 100;
            mode = next;
        }
    }

    private static void handValueIsHeldWithinLimits() {
        int[][] due = {{-6, -5}, {-5, -5}, {-4, -4}, {6, 6}, {7, 7}, {8, 7}};
        for (int[] one : due) {
            Bench b = new Bench("terms, the hand value " + one[0]);
            b.done("setLimits", 0, -5, 7);
            b.due(0, "setHand", 0, one[0]);
            b.due(1, "run", 1);
            b.due(one[1], "output", 0);
            b.due(0, "held", 0);
        }
    }

    private static void settledAtTheLatestOutput() {
        for (int loop = 0; loop < 3; loop++) {
            for (int mode = 1; mode <= (loop == 0 ? 1 : 2); mode++) {
                Bench b = new Bench("terms, loop " + loop + " from hand to " + mode);
                b.ask("setTies", loop, 0, loop == 0 ? 0 : 1);
                b.due(0, "setGains", loop, 300, 20, 70);
                b.done("setPlant", loop, 0, 0, 1000, 0);
                b.due(0, "setHand", loop, 4000);
                b.due(2, "run", 2);
                b.due(4000, "setHand", loop, 9000);
                b.due(3, "run", 1);
                b.due(9000, "setHand", loop, 1);
                b.due(0, "setSetpoint", loop, 10000);
                b.due(0, "setMode", loop, mode);
                // Error 1000 and rate -5000.
                b.due(9000000 - 300000 + 350000, "integral", loop);
            }
        }
    }

    private static void toHandFromEachMode() {
        for (int mode = 1; mode <= 3; mode++) {
            Bench b = new Bench("terms, to hand from " + mode);
            Edge.inMode(1, mode).accept(b);
            long output = Long.parseLong(b.ask("output", 1));
            b.due(mode, "setMode", 1, 0);
            b.due(output, "output", 1);
            b.due(11, "run", 1);
            b.due(output, "output", 1);
            b.due(output, "setHand", 1, 0);
        }
    }

    private static void setpointFollowsTheMeasureOfTheSample() {
        Bench b = new Bench("terms, a loop that follows");
        b.done("setPlant", 0, 1000, 0, 0, 0);
        b.due(0, "setLoad", 0, 10);
        b.done("setTies", 0, 1, 0);
        b.due(0, "setSetpoint", 0, 77);
        b.due(77, "setpoint", 0);
        b.due(1, "run", 1);
        b.due(0, "setpoint", 0);
        b.due(10, "measure", 0);
        b.due(3, "run", 2);
        b.due(20, "setpoint", 0);
        // Out of hand no longer, also at the first sample there.
        b.due(0, "setMode", 0, 1);
        b.due(4, "run", 1);
        b.due(20, "setpoint", 0);
        b.due(1, "setMode", 0, 0);
        b.due(20, "setpoint", 0);
        b.due(5, "run", 1);
        b.due(40, "setpoint", 0);
        b.done("setTies", 0, 0, 0);
        b.due(6, "run", 1);
        b.due(40, "setpoint", 0);
    }

    private static void cascadeSetsTheSetpointAtEachSample() {
        Bench b = new Bench("terms, the setpoint in cascade");
        b.done("setTies", 1, 1, 1);
        b.done("setTies", 2, 0, 1);
        b.done("setLimits", 0, -1000000, 1000000);
        b.due(0, "setMode", 1, 2);
        b.due(0, "setSetpoint", 2, 60);
        int before = 0;
        int samples = 0;
        for (int value : new int[] {500, -7, 1000000, -1000000, 0}) {
            b.due(before, "setHand", 0, value);
            b.due(before, "setpoint", 1);
            // Loop 1 is starved by loop 2 meanwhile.
            b.due(++samples, "run", 1);
            b.due(1, "wasStarved", 1);
            b.due(value, "setpoint", 1);
            b.due(60, "output", 1);
            before = value;
        }
    }

    private static void starvedInEachPairOfModes() {
        for (int lower = 0; lower < 2; lower++) {
            for (int mode = 0; mode <= 3; mode++) {
                for (int above = 0; above <= 3; above++) {
                    starved(lower, mode, above, 1);
                    if (above != 2) {
                        starved(lower, mode, above, 0);
                    }
                }
            }
        }
    }

    private static void starved(int lower, int mode, int above, int master) {
        if (lower == 0 && mode == 2) {
            // Loop 0 cannot be in cascade.
            return;
        }
        Bench b = new Bench("terms, loop " + lower + " in " + mode + " below one in " + above + ", master " + master);
        b.ask("setTies", lower, 0, lower == 0 ? 0 : 1);
        b.done("setTies", lower + 1, 0, master);
        b.due(0, "setSetpoint", lower + 1, 60);
        goTo(b, lower, mode);
        goTo(b, lower + 1, above);
        b.due(0, "wasStarved", lower);
        b.due(1, "run", 1);
        boolean due = (mode == 1 || mode == 2) && master == 1 && above != 2;
        b.due(due ? 1 : 0, "wasStarved", lower);
        b.due(0, "wasStarved", 2);
        if (due) {
            b.due(60, "output", lower);
        }
    }

    private static void goTo(Bench b, int loop, int mode) {
        if (mode == 3) {
            b.due(0, "setMode", loop, 1);
            b.done("startRelay", loop, 7, 0);
        } else {
            b.due(0, "setMode", loop, mode);
        }
    }

    private static void highestLoopIsNeverStarved() {
        Bench b = new Bench("terms, no loop above loop 2");
        for (int loop = 0; loop < 3; loop++) {
            b.done("setTies", loop, 0, loop == 0 ? 0 : 1);
            b.due(0, "setMode", loop, 1);
        }
        b.due(1, "run", 1);
        b.due(1, "wasStarved", 0);
        b.due(1, "wasStarved", 1);
        b.due(0, "wasStarved", 2);
        b.due(1, "setMode", 2, 2);
        b.due(2, "run", 1);
        b.due(1, "wasStarved", 0);
        b.due(0, "wasStarved", 1);
        b.due(0, "wasStarved", 2);
    }

    private static void starvedOutputIsHeldWithinLimits() {
        int[][] due = {{-6, -5}, {-5, -5}, {-4, -4}, {6, 6}, {7, 7}, {8, 7}};
        for (int[] one : due) {
            Bench b = new Bench("terms, starved at " + one[0]);
            b.done("setLimits", 0, -5, 7);
            b.done("setTies", 1, 0, 1);
            b.due(0, "setSetpoint", 1, one[0]);
            b.due(0, "setMode", 0, 1);
            b.due(1, "run", 1);
            b.due(one[1], "output", 0);
            b.due(0, "held", 0);
        }
    }

    private static void starvedIsSettledAtWhatIsHeld() {
        Bench b = new Bench("terms, starved and settled");
        b.due(0, "setGains", 0, 1000, 100, 50);
        b.done("setPlant", 0, 0, 0, 1000, 0);
        b.done("setLimits", 0, -5, 7);
        b.done("setTies", 1, 0, 1);
        b.due(0, "setSetpoint", 1, 8);
        b.due(0, "setSetpoint", 0, 20);
        b.due(0, "setMode", 0, 1);
        b.due(1, "run", 1);
        b.due(7000 - 20000, "integral", 0);
        b.due(2, "run", 1);
        // Error 13 and rate -7.
        b.due(7000 - 13000 + 350, "integral", 0);
        b.due(0, "outputByIncrements", 0);
    }

    /** A loop 0 in automatic whose measure is that at its next sample. */
    private static Bench scheduled(String title, int measure, int[]... points) {
        Bench b = new Bench("terms, " + title + " at " + measure);
        b.done("setLimits", 0, -1000000, 1000000);
        b.done("setPlant", 0, 0, 0, 1000, 0);
        b.due(0, "setHand", 0, measure);
        b.due(1, "run", 1);
        for (int n = 0; n < points.length; n++) {
            b.due(n + 1, "addPoint", 0, points[n][0], points[n][1], points[n][2], points[n][3]);
        }
        b.due(0, "setMode", 0, 1);
        b.due(measure, "measure", 0);
        b.due(2, "run", 1);
        return b;
    }

    private static void gains(Bench b, long p, long i, long d) {
        b.due(p, "gain", 0, 0);
        b.due(i, "gain", 0, 1);
        b.due(d, "gain", 0, 2);
    }

    private static void withoutPointsTheGainsStay() {
        gains(scheduled("no points", 500), 1000, 100, 0);
    }

    private static void onePointCountsEverywhere() {
        for (int measure : new int[] {-1000000, 499, 500, 501, 1000000}) {
            gains(scheduled("one point", measure, new int[] {500, 7, 8, 9}), 7, 8, 9);
        }
    }

    private static void gainsAtTheFirstAndTheLastPoint() {
        int[] first = {-100, 10, 20, 30};
        int[] last = {100, 210, -180, 430};
        gains(scheduled("below the first point", -101, first, last), 10, 20, 30);
        gains(scheduled("the first point", -100, first, last), 10, 20, 30);
        gains(scheduled("next above the first point", -99, first, last), 11, 19, 32);
        gains(scheduled("next below the last point", 99, first, last), 209, -179, 428);
        gains(scheduled("the last point", 100, first, last), 210, -180, 430);
        gains(scheduled("above the last point", 101, first, last), 210, -180, 430);
        gains(scheduled("far below", -1000000, first, last), 10, 20, 30);
        gains(scheduled("far above", 1000000, first, last), 210, -180, 430);
    }

    private static void gainsBetweenRoundDownAlsoWhenTheyFall() {
        int[] first = {0, 0, 0, 0};
        int[] last = {3, 1, -1, -5};
        gains(scheduled("between", 1, first, last), 0, -1, -2);
        gains(scheduled("between", 2, first, last), 0, -1, -4);
        int[] third = {6, 0, 1, -4};
        gains(scheduled("between", 4, first, last, third), 0, -1, -5);
        gains(scheduled("between", 5, first, last, third), 0, 0, -5);
    }

    private static void gainsOverTheWidestSchedule() {
        int[] first = {-1000000, -20000, 5000, -50000};
        int[] last = {1000000, 20000, -5000, 50000};
        gains(scheduled("widest", -1000000, first, last), -20000, 5000, -50000);
        gains(scheduled("widest", -999999, first, last), -20000, 4999, -50000);
        gains(scheduled("widest", 0, first, last), 0, 0, 0);
        gains(scheduled("widest", 999999, first, last), 19999, -5000, 49999);
        gains(scheduled("widest", 1000000, first, last), 20000, -5000, 50000);
    }

    private static void gainsOverTheNarrowestSchedule() {
        int[][] points = {{-2, 1, 1, 1}, {-1, 2, 2, 2}, {0, 3, 3, 3}, {1, 4, 4, 4}, {2, 5, 5, 5}};
        for (int measure = -3; measure <= 3; measure++) {
            int due = Math.max(1, Math.min(5, measure + 3));
            gains(scheduled("narrowest", measure, points), due, due, due);
        }
    }

    private static void gainsAtAPointBetween() {
        int[][] points = {{0, 0, 0, 0}, {10, 100, 50, -30}, {20, -100, -50, 30}};
        gains(scheduled("next below a point between", 9, points), 90, 45, -27);
        gains(scheduled("a point between", 10, points), 100, 50, -30);
        gains(scheduled("next above a point between", 11, points), 80, 40, -24);
    }

    private static void lastOfTheCallsStillAnswers() {
        Bench b = new Bench("what it is, the 512th call");
        for (int n = 1; n <= 511; n++) {
            b.due(n, "run", 1);
        }
        b.due(512, "run", 1);
        Bench other = new Bench("what it is, the 512th call is refused");
        for (int n = 1; n <= 511; n++) {
            other.refused(Bench.INDEX, "setMode", 3, 0);
        }
        other.refused(Bench.ARGUMENT, "setMode", 0, 3);
    }

    private static void signalsStayWholeOverTheLongestUse() {
        Bench b = new Bench("what it is, the longest use");
        b.done("setLimits", 0, 1000000, 1000000);
        b.done("setPlant", 0, 0, 0, -1000, 0);
        b.due(0, "setSetpoint", 0, 1000000);
        b.due(0, "setMode", 0, 1);
        b.due(0, "setGains", 0, 20000, 5000, -50000);
        b.due(-20000000000L, "integral", 0);
        b.due(1, "run", 1);
        for (int n = 1; n <= 500; n++) {
            b.due(1 + 200 * n, "run", 200);
        }
        b.due(-1000000, "measure", 0);
        // 5000 * 1000000 at the first sample, 5000 * 2000000 at each of the 100000 others.
        b.due(-15000000000L + 1000000000000000L, "integral", 0);
        b.due((-15000000000L + 1000000000000000L + 40000000000L) / 1000, "outputByIncrements", 0);
        b.due(100001, "held", 0);
    }
}
