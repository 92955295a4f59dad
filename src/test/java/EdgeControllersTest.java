/** Promises 4 to 11: each boundary case of the controllers' calls by itself. */
final class EdgeControllersTest {
    private static final int[] MODES = {0, 1, 2, 3};

    public static void main(String[] args) {
        setGains();
        addPoint();
        setLimits();
        setGuard();
        setSetpoint();
        setHand();
        setTies();
        setMode();
        Bench.finish();
    }

    private static void setGains() {
        promise4NoSuchLoop();
        promise4Ranges();
        promise4EndsAct();
        promise4EmptyAndFullSchedule();
        promise4RefusedInRelayAlone();
        promise4TakenAgainBehindTheRelay();
        promise4FirstException();
        promise4GreatestChangeKeepsTheSum();
    }

    private static void addPoint() {
        promise5NoSuchLoop();
        promise5Ranges();
        promise5EndsOfGainsAct();
        promise5MeasureAboveThoseOfItsPoints();
        promise5NothingIsAboveTheGreatestMeasure();
        promise5FirstPointMayBeAnywhere();
        promise5FifthIsTakenSixthIsNot();
        promise5FullInEachLoopByItself();
        promise5FirstException();
        promise5GainsChangeAtTheNextAutomaticSample();
        promise5TakenInEachMode();
    }

    private static void setLimits() {
        promise6NoSuchLoop();
        promise6RangeOfLow();
        promise6HighIsLowAtTheLeast();
        promise6LowAndHighAlike();
        promise6EndsAct();
        promise6FromTheNextSampleOn();
        promise6LoopAheadOfLimits();
        promise6TakenInEachMode();
    }

    private static void setGuard() {
        promise7NoSuchLoop();
        promise7RangeOfGuard();
        promise7RangeOfShare();
        promise7EndsOfShareAct();
        promise7AnswersTheGuardBefore();
        promise7RefusedLeavesGuardAndShare();
        promise7LoopAheadOfGuard();
    }

    private static void setSetpoint() {
        promise8NoSuchLoop();
        promise8Range();
        promise8EndsAct();
        promise8RefusedInCascadeAlone();
        promise8AnswersTheSetpointBefore();
        promise8FirstException();
    }

    private static void setHand() {
        promise9NoSuchLoop();
        promise9Range();
        promise9EndsAct();
        promise9RefusedOutOfHand();
        promise9AnswersTheHandValueBefore();
        promise9FirstException();
    }

    private static void setTies() {
        promise10NoSuchLoop();
        promise10NoMasterForLoopZero();
        promise10NoWayOutOfTheMasterInCascade();
        promise10MasterMayGoInTheOtherModes();
        promise10RefusedLeavesFollows();
        promise10FirstException();
    }

    private static void setMode() {
        promise11NoSuchLoop();
        promise11Range();
        promise11RelayLeavesByHandAlone();
        promise11CascadeNeedsAMaster();
        promise11NothingHappensInThatMode();
        promise11AnswersTheModeBefore();
        promise11AheadOfTheFirstSample();
        promise11FirstException();
    }

    private static boolean hasMode(int loop, int mode) {
        return loop != 0 || mode != 2;
    }

    private static void promise4NoSuchLoop() {
        Edge.loops("promise 4, loops", Edge.FRESH, "setGains", 0, 1, 1, 1);
        Edge.noSuchLoop("promise 4, loops", Edge.inMode(0, 3), "setGains", 0, 1, 1, 1);
    }

    private static void promise4Ranges() {
        for (int loop = 0; loop < 3; loop++) {
            int[] a = {loop, 0, 0, 0};
            Edge.range("promise 4, p is -20000 to 20000", Edge.inMode(loop, 1), "setGains", a, 1, -20000, 20000);
            Edge.range("promise 4, i is -5000 to 5000", Edge.inMode(loop, 1), "setGains", a, 2, -5000, 5000);
            Edge.range("promise 4, d is -50000 to 50000", Edge.inMode(loop, 1), "setGains", a, 3, -50000, 50000);
        }
    }

    /** With an error of 1000, or with a rate of 1000, the gain is what is wanted. */
    private static void promise4EndsAct() {
        for (int p : new int[] {20000, 19999, -19999, -20000}) {
            Bench b = new Bench("promise 4, p " + p);
            b.due(0, "setGains", 1, p, 0, 0);
            Edge.still(b, 1);
            b.due(0, "setSetpoint", 1, 1000);
            b.due(1, "run", 1);
            b.due(p, "output", 1);
            b.due(p, "gain", 1, 0);
        }
        for (int i : new int[] {5000, 4999, -4999, -5000}) {
            Bench b = new Bench("promise 4, i " + i);
            b.due(0, "setGains", 1, 0, i, 0);
            Edge.still(b, 1);
            b.due(0, "setSetpoint", 1, 1000);
            b.due(2, "run", 2);
            b.due(2 * i, "output", 1);
            b.due(i, "gain", 1, 1);
        }
        for (int d : new int[] {50000, 49999, -49999, -50000}) {
            Bench b = new Bench("promise 4, d " + d);
            b.due(0, "setGains", 1, 0, 0, d);
            Edge.still(b, 1);
            b.due(0, "setLoad", 1, -1000);
            b.due(2, "run", 2);
            b.due(d, "output", 1);
            b.due(d, "gain", 1, 2);
        }
    }

    private static void promise4EmptyAndFullSchedule() {
        Bench b = new Bench("promise 4, how many points it had");
        b.due(0, "setGains", 0, 1, 1, 1);
        Edge.fullSchedule(b);
        b.due(0, "setGains", 1, 1, 1, 1);
        b.due(5, "setGains", 0, 1, 1, 1);
        b.due(0, "setGains", 0, 1, 1, 1);
        // No point of the old schedule is left: not its gains, and not its measures.
        b.due(9, "run", 1);
        b.due(1, "gain", 0, 0);
        for (int n = 1; n <= 5; n++) {
            b.due(n, "addPoint", 0, -100 + n, n, n, n);
        }
        b.due(5, "setGains", 0, 2, 2, 2);
        b.due(1, "addPoint", 0, 0, 1, 1, 1);
        b.due(1, "setGains", 0, 2, 2, 2);
    }

    private static void promise4RefusedInRelayAlone() {
        for (int loop = 0; loop < 3; loop++) {
            Edge.refused("promise 4, in the mode 3", Edge.inMode(loop, 3), Bench.STATE, "setGains", loop, 1, 2, 3);
            for (int mode = 0; mode < 3; mode++) {
                if (hasMode(loop, mode)) {
                    Edge.taken("promise 4, mode " + mode, Edge.inMode(loop, mode), "setGains", loop, 1, 2, 3);
                }
            }
        }
    }

    private static void promise4TakenAgainBehindTheRelay() {
        Bench b = new Bench("promise 4, behind an experiment");
        Edge.still(b, 0);
        b.done("startRelay", 0, 1, 0);
        b.refused(Bench.STATE, "setGains", 0, 1, 1, 1);
        b.due(199, "run", 199);
        b.due(399, "run", 200);
        b.refused(Bench.STATE, "setGains", 0, 1, 1, 1);
        b.due(400, "run", 1);
        b.due(0, "setGains", 0, 1, 1, 1);
        b.done("startRelay", 0, 1, 0);
        b.refused(Bench.STATE, "setGains", 0, 1, 1, 1);
        b.due(3, "setMode", 0, 0);
        b.due(0, "setGains", 0, 1, 1, 1);
    }

    private static void promise4FirstException() {
        Edge.noSuchLoop("promise 4, the loop first", Edge.inMode(0, 3), "setGains", 0, 20001, 5001, 50001);
        Edge.refused("promise 4, the range ahead of the mode", Edge.inMode(0, 3), Bench.ARGUMENT, "setGains", 0, 20001,
            1, 1);
        Edge.refused("promise 4, the range ahead of the mode", Edge.inMode(1, 3), Bench.ARGUMENT, "setGains", 1, 1,
            -5001, 1);
        Edge.refused("promise 4, the range ahead of the mode", Edge.inMode(2, 3), Bench.ARGUMENT, "setGains", 2, 1, 1,
            50001);
    }

    private static void promise4GreatestChangeKeepsTheSum() {
        Bench b = new Bench("promise 4, the greatest change");
        b.done("setLimits", 0, -1000000, 1000000);
        b.done("setPlant", 0, 0, 0, 1000, 0);
        b.due(0, "setGains", 0, -20000, -5000, -50000);
        b.due(0, "setHand", 0, 1000000);
        b.due(1, "run", 1);
        b.due(1000000, "setHand", 0, -1000000);
        b.due(2, "run", 1);
        b.due(0, "setSetpoint", 0, 1000000);
        // Error 2000000 and rate 2000000: 40000 and 100000 times that.
        b.due(0, "setGains", 0, 20000, 5000, 50000);
        b.due(-280000000000L, "integral", 0);
        b.due(0, "setGains", 0, -20000, -5000, -50000);
        b.due(0, "integral", 0);
    }

    private static void promise5NoSuchLoop() {
        Edge.loops("promise 5, loops", Edge.FRESH, "addPoint", 0, 1, 1, 1, 1);
        Edge.noSuchLoop("promise 5, loops", Edge::fullSchedule, "addPoint", 0, 501, 1, 1, 1);
    }

    private static void promise5Ranges() {
        int[] a = {1, 0, 0, 0, 0};
        Edge.range("promise 5, measure is -1000000 to 1000000", Edge.FRESH, "addPoint", a, 1, -1000000, 1000000);
        Edge.range("promise 5, p is -20000 to 20000", Edge.FRESH, "addPoint", a, 2, -20000, 20000);
        Edge.range("promise 5, i is -5000 to 5000", Edge.FRESH, "addPoint", a, 3, -5000, 5000);
        Edge.range("promise 5, d is -50000 to 50000", Edge.FRESH, "addPoint", a, 4, -50000, 50000);
        for (int loop = 0; loop < 3; loop++) {
            int[] above = {loop, 999000, 0, 0, 0};
            Edge.range("promise 5, measure at work", Edge.inMode(loop, 1), "addPoint", above, 1, 9001 + loop, 1000000);
            Edge.range("promise 5, p at work", Edge.inMode(loop, 1), "addPoint", above, 2, -20000, 20000);
            Edge.range("promise 5, i at work", Edge.inMode(loop, 1), "addPoint", above, 3, -5000, 5000);
            Edge.range("promise 5, d at work", Edge.inMode(loop, 1), "addPoint", above, 4, -50000, 50000);
        }
    }

    private static void promise5EndsOfGainsAct() {
        int[][] ends = {{20000, 5000, 50000}, {-20000, -5000, -50000}};
        for (int[] gains : ends) {
            Bench b = new Bench("promise 5, gains from " + gains[0]);
            b.due(1, "addPoint", 2, 0, gains[0], gains[1], gains[2]);
            Edge.still(b, 2);
            b.due(0, "setSetpoint", 2, 1000);
            b.due(1, "run", 1);
            for (int which = 0; which < 3; which++) {
                b.due(gains[which], "gain", 2, which);
            }
            // Settled with the gains ahead: the error has grown the integral by what p would take from it.
            b.due((1000L - gains[0]) * 1000 + gains[1] * 1000L, "integral", 2);
        }
    }

    private static void promise5MeasureAboveThoseOfItsPoints() {
        for (int last : new int[] {-1000000, -5, 0, 7, 999999}) {
            Edge.refused("promise 5, at the last point", b -> b.due(1, "addPoint", 0, last, 1, 1, 1), Bench.ARGUMENT,
                "addPoint", 0, last, 1, 1, 1);
            Edge.refused("promise 5, below the last point", b -> b.due(1, "addPoint", 0, last, 1, 1, 1),
                Bench.ARGUMENT, "addPoint", 0, last - 1, 1, 1, 1);
            Bench b = new Bench("promise 5, next above the last point");
            b.due(1, "addPoint", 0, last, 1, 1, 1);
            b.due(2, "addPoint", 0, last + 1, 1, 1, 1);
        }
        // Between two of its points it is above the one, but not above all of them.
        for (int measure : new int[] {100, 101, 150, 199, 200}) {
            Edge.refused("promise 5, between two points", EdgeControllersTest::twoPoints, Bench.ARGUMENT, "addPoint", 0,
                measure, 1, 1, 1);
        }
        Edge.taken("promise 5, above both points", EdgeControllersTest::twoPoints, "addPoint", 0, 201, 1, 1, 1);
    }

    private static void twoPoints(Bench b) {
        b.due(1, "addPoint", 0, 100, 1, 1, 1);
        b.due(2, "addPoint", 0, 200, 1, 1, 1);
    }

    private static void promise5NothingIsAboveTheGreatestMeasure() {
        for (int measure : new int[] {999999, 1000000, 1000001}) {
            Edge.refused("promise 5, behind the greatest measure", b -> b.due(1, "addPoint", 0, 1000000, 1, 1, 1),
                Bench.ARGUMENT, "addPoint", 0, measure, 1, 1, 1);
        }
    }

    private static void promise5FirstPointMayBeAnywhere() {
        Bench b = new Bench("promise 5, the first point");
        b.due(1, "addPoint", 0, -1000000, 1, 1, 1);
        b.due(1, "setGains", 0, 1, 1, 1);
        b.due(1, "addPoint", 0, 1000000, 1, 1, 1);
        b.due(1, "setGains", 0, 1, 1, 1);
        b.due(1, "addPoint", 0, -1000000, 1, 1, 1);
        b.due(1, "addPoint", 1, -1000000, 1, 1, 1);
    }

    private static void promise5FifthIsTakenSixthIsNot() {
        Bench b = new Bench("promise 5, how many points it has then");
        for (int n = 1; n <= 5; n++) {
            b.due(n, "addPoint", 0, n, 1, 1, 1);
        }
        b.refused(Bench.STATE, "addPoint", 0, 6, 1, 1, 1);
        b.due(5, "setGains", 0, 1, 1, 1);
        Edge.refused("promise 5, it has 5 points", Edge::fullSchedule, Bench.STATE, "addPoint", 0, 501, 1, 2, 3);
        Edge.refused("promise 5, it has 5 points", Edge::fullSchedule, Bench.STATE, "addPoint", 0, 1000000, 20000, 5000,
            50000);
    }

    private static void promise5FullInEachLoopByItself() {
        Bench b = new Bench("promise 5, the other loops are not full");
        Edge.fullSchedule(b);
        b.refused(Bench.STATE, "addPoint", 0, 501, 1, 1, 1);
        b.due(1, "addPoint", 1, 501, 1, 1, 1);
        b.due(1, "addPoint", 2, 1, 1, 1, 1);
        b.refused(Bench.STATE, "addPoint", 0, 501, 1, 1, 1);
    }

    private static void promise5FirstException() {
        Edge.noSuchLoop("promise 5, the loop first", Edge::fullSchedule, "addPoint", 0, 1000001, 20001, 5001, 50001);
        int[][] wrong = {{500, 1, 1, 1}, {-1000001, 1, 1, 1}, {1000001, 1, 1, 1}, {501, 20001, 1, 1},
            {501, 1, -5001, 1}, {501, 1, 1, 50001}};
        for (int[] a : wrong) {
            Edge.refused("promise 5, the range ahead of the 5 points", Edge::fullSchedule, Bench.ARGUMENT, "addPoint",
                0, a[0], a[1], a[2], a[3]);
        }
    }

    private static void promise5GainsChangeAtTheNextAutomaticSample() {
        Bench b = new Bench("promise 5, the next automatic sample");
        Edge.still(b, 0);
        b.due(1, "run", 1);
        b.due(1, "addPoint", 0, 0, 7, 8, 9);
        b.due(1000, "gain", 0, 0);
        b.due(100, "gain", 0, 1);
        b.due(0, "gain", 0, 2);
        b.due(2, "run", 1);
        b.due(7, "gain", 0, 0);
        b.due(8, "gain", 0, 1);
        b.due(9, "gain", 0, 2);
    }

    private static void promise5TakenInEachMode() {
        for (int mode : MODES) {
            Edge.taken("promise 5, mode " + mode, Edge.inMode(1, mode), "addPoint", 1, 9002, 1, 1, 1);
        }
    }

    private static void promise6NoSuchLoop() {
        Edge.loops("promise 6, loops", Edge.FRESH, "setLimits", 0, 1, 2);
        Edge.loops("promise 6, loops", Edge.inMode(2, 2), "setLimits", 0, 1, 2);
    }

    private static void promise6RangeOfLow() {
        for (int loop = 0; loop < 3; loop++) {
            Edge.range("promise 6, low is -1000000 to 1000000", Edge.inMode(loop, 0), "setLimits",
                new int[] {loop, 0, 1000000}, 1, -1000000, 1000000);
        }
        Edge.refused("promise 6, low and high too great", Edge.FRESH, Bench.ARGUMENT, "setLimits", 0, 1000001, 1000001);
        Edge.refused("promise 6, low and high too small", Edge.FRESH, Bench.ARGUMENT, "setLimits", 0, -1000001,
            -1000001);
    }

    private static void promise6HighIsLowAtTheLeast() {
        for (int low : new int[] {-1000000, -1, 0, 5, 999998}) {
            Edge.range("promise 6, high is low to 1000000", Edge.inMode(0, 0), "setLimits", new int[] {0, low, 0}, 2,
                low, 1000000);
        }
        // Low may be ahead of the old high, and high ahead of the old low: the two go together.
        Bench b = new Bench("promise 6, both at once");
        b.done("setLimits", 0, 200000, 300000);
        b.done("setLimits", 0, -300000, -200000);
    }

    private static void promise6LowAndHighAlike() {
        for (int both : new int[] {-1000000, 0, 1000000}) {
            Bench b = new Bench("promise 6, low and high are " + both);
            b.done("setLimits", 0, both, both);
            b.due(1, "run", 1);
            b.due(both, "output", 0);
            Edge.refused("promise 6, high next below low", Edge.FRESH, Bench.ARGUMENT, "setLimits", 0, both, both - 1);
        }
    }

    private static void promise6EndsAct() {
        Bench b = new Bench("promise 6, the widest limits");
        b.done("setLimits", 0, -1000000, 1000000);
        b.due(0, "setHand", 0, 1000000);
        b.due(1, "run", 1);
        b.due(1000000, "output", 0);
        b.due(1000000, "setHand", 0, -1000000);
        b.due(2, "run", 1);
        b.due(-1000000, "output", 0);
        b.done("setLimits", 0, -999999, 999999);
        b.due(3, "run", 1);
        b.due(-999999, "output", 0);
        b.due(-1000000, "setHand", 0, 1000000);
        b.due(4, "run", 1);
        b.due(999999, "output", 0);
    }

    private static void promise6FromTheNextSampleOn() {
        Bench b = new Bench("promise 6, from the next sample on");
        b.due(0, "setHand", 0, 700);
        b.due(1, "run", 1);
        b.done("setLimits", 0, 0, 300);
        b.due(700, "output", 0);
        // Settled at the output as it was, which the new limits have not held.
        b.due(0, "setMode", 0, 1);
        b.due(700000 + 140000, "integral", 0);
        b.due(1, "setMode", 0, 0);
        b.due(700, "setHand", 0, 700);
        b.due(2, "run", 1);
        b.due(300, "output", 0);
    }

    private static void promise6LoopAheadOfLimits() {
        Edge.noSuchLoop("promise 6, the loop first", Edge.FRESH, "setLimits", 0, 1, 0);
        Edge.noSuchLoop("promise 6, the loop first", Edge.FRESH, "setLimits", 0, -1000001, 1000001);
    }

    private static void promise6TakenInEachMode() {
        for (int mode : MODES) {
            Edge.taken("promise 6, mode " + mode, Edge.inMode(1, mode), "setLimits", 1, 5, 5);
        }
    }

    private static void promise7NoSuchLoop() {
        Edge.loops("promise 7, loops", Edge.FRESH, "setGuard", 0, 1, 1);
        Edge.loops("promise 7, loops", Edge.inMode(2, 2), "setGuard", 0, 1, 1);
    }

    private static void promise7RangeOfGuard() {
        for (int loop = 0; loop < 3; loop++) {
            int[] a = {loop, 0, 10};
            Edge.range("promise 7, guard is 0 to 2", Edge.inMode(loop, 1), "setGuard", a, 1, 0, 2);
        }
    }

    private static void promise7RangeOfShare() {
        for (int guard = 0; guard <= 2; guard++) {
            Edge.range("promise 7, share is 0 to 1000", Edge.inMode(0, 1), "setGuard", new int[] {0, guard, 0}, 2, 0,
                1000);
        }
    }

    private static void promise7EndsOfShareAct() {
        for (int share : new int[] {0, 1, 999, 1000}) {
            Bench b = new Bench("promise 7, share " + share);
            winding(b);
            b.due(2, "setGuard", 0, 2, share);
            b.due(1, "run", 1);
            // 1000 is wanted by the error, 100 by the integral, and the output is 0.
            b.due(100000 - 1100 * share, "integral", 0);
        }
    }

    /** What is wanted is above the limit 0, with the guard 2. */
    private static void winding(Bench b) {
        Edge.still(b, 0);
        b.done("setLimits", 0, 0, 0);
        b.due(0, "setGuard", 0, 2, 300);
        b.due(0, "setSetpoint", 0, 1000);
    }

    private static void promise7AnswersTheGuardBefore() {
        Bench b = new Bench("promise 7, the guard before");
        int before = 0;
        for (int guard : new int[] {2, 0, 1, 1, 2, 2, 0, 0}) {
            b.due(before, "setGuard", 2, guard, 0);
            b.refused(Bench.ARGUMENT, "setGuard", 2, 3, 0);
            b.refused(Bench.ARGUMENT, "setGuard", 2, 1, 1001);
            before = guard;
        }
        b.due(0, "setGuard", 1, 0, 0);
    }

    private static void promise7RefusedLeavesGuardAndShare() {
        Edge.refused("promise 7, guard refused", EdgeControllersTest::winding, Bench.ARGUMENT, "setGuard", 0, 3, 900);
        Edge.refused("promise 7, guard refused", EdgeControllersTest::winding, Bench.ARGUMENT, "setGuard", 0, -1, 900);
        Edge.refused("promise 7, share refused", EdgeControllersTest::winding, Bench.ARGUMENT, "setGuard", 0, 1, 1001);
        Edge.refused("promise 7, share refused", EdgeControllersTest::winding, Bench.ARGUMENT, "setGuard", 0, 0, -1);
    }

    private static void promise7LoopAheadOfGuard() {
        Edge.noSuchLoop("promise 7, the loop first", Edge.FRESH, "setGuard", 0, 3, 1001);
        Edge.noSuchLoop("promise 7, the loop first", Edge.FRESH, "setGuard", 0, -1, -1);
    }

    private static void promise8NoSuchLoop() {
        Edge.loops("promise 8, loops", Edge.FRESH, "setSetpoint", 0, 1);
        Edge.noSuchLoop("promise 8, loops", Edge.inMode(2, 2), "setSetpoint", 0, 1);
    }

    private static void promise8Range() {
        for (int loop = 0; loop < 3; loop++) {
            for (int mode : new int[] {0, 1, 3}) {
                Edge.range("promise 8, setpoint is -1000000 to 1000000", Edge.inMode(loop, mode), "setSetpoint",
                    new int[] {loop, 0}, 1, -1000000, 1000000);
            }
        }
    }

    private static void promise8EndsAct() {
        for (int setpoint : new int[] {1000000, 999999, -999999, -1000000}) {
            Bench b = new Bench("promise 8, setpoint " + setpoint);
            b.due(0, "setGains", 0, 1000, 0, 0);
            Edge.still(b, 0);
            b.due(0, "setSetpoint", 0, setpoint);
            b.due(setpoint, "setpoint", 0);
            b.due(1, "run", 1);
            b.due(setpoint, "output", 0);
            b.due(0, "held", 0);
        }
    }

    private static void promise8RefusedInCascadeAlone() {
        for (int loop = 1; loop < 3; loop++) {
            Edge.refused("promise 8, in cascade", Edge.inMode(loop, 2), Bench.STATE, "setSetpoint", loop, 1);
            Edge.refused("promise 8, in cascade", Edge.inMode(loop, 2), Bench.STATE, "setSetpoint", loop, 1000000);
        }
        Bench b = new Bench("promise 8, behind the cascade");
        b.done("setTies", 1, 0, 1);
        b.due(0, "setMode", 1, 2);
        b.refused(Bench.STATE, "setSetpoint", 1, 5);
        b.due(0, "setSetpoint", 0, 5);
        b.due(2, "setMode", 1, 1);
        b.due(0, "setSetpoint", 1, 5);
        b.due(1, "setMode", 1, 2);
        b.refused(Bench.STATE, "setSetpoint", 1, 6);
        b.due(2, "setMode", 1, 0);
        b.due(5, "setSetpoint", 1, 6);
    }

    private static void promise8AnswersTheSetpointBefore() {
        Bench b = new Bench("promise 8, the setpoint before");
        b.due(0, "setSetpoint", 2, 1000000);
        b.refused(Bench.ARGUMENT, "setSetpoint", 2, 1000001);
        b.due(1000000, "setSetpoint", 2, -1000000);
        b.refused(Bench.ARGUMENT, "setSetpoint", 2, -1000001);
        b.due(-1000000, "setSetpoint", 2, 0);
        b.due(0, "setSetpoint", 1, 0);
        // Also one that a cascade has left, and one that followed the measure.
        b.done("setTies", 1, 0, 1);
        b.due(0, "setHand", 0, 4321);
        b.due(0, "setMode", 1, 2);
        b.due(1, "run", 1);
        b.due(2, "setMode", 1, 1);
        b.due(4321, "setSetpoint", 1, 0);
        b.done("setTies", 0, 1, 0);
        b.due(2, "run", 1);
        b.due(864, "setSetpoint", 0, 0);
    }

    private static void promise8FirstException() {
        Edge.noSuchLoop("promise 8, the loop first", Edge.inMode(1, 2), "setSetpoint", 0, 1000001);
        for (int loop = 1; loop < 3; loop++) {
            for (int setpoint : new int[] {1000001, -1000001}) {
                Edge.refused("promise 8, the range ahead of the mode", Edge.inMode(loop, 2), Bench.ARGUMENT,
                    "setSetpoint", loop, setpoint);
            }
        }
    }

    private static void promise9NoSuchLoop() {
        Edge.loops("promise 9, loops", Edge.FRESH, "setHand", 0, 1);
        Edge.noSuchLoop("promise 9, loops", Edge.inMode(0, 1), "setHand", 0, 1);
    }

    private static void promise9Range() {
        for (int loop = 0; loop < 3; loop++) {
            Edge.range("promise 9, value is -1000000 to 1000000", Edge.inMode(loop, 0), "setHand", new int[] {loop, 0},
                1, -1000000, 1000000);
        }
    }

    private static void promise9EndsAct() {
        for (int value : new int[] {1000000, 999999, -999999, -1000000}) {
            Bench b = new Bench("promise 9, value " + value);
            b.done("setLimits", 1, -1000000, 1000000);
            b.due(0, "setHand", 1, value);
            b.due(0, "output", 1);
            b.due(1, "run", 1);
            b.due(value, "output", 1);
            b.due(0, "output", 0);
        }
    }

    private static void promise9RefusedOutOfHand() {
        for (int loop = 0; loop < 3; loop++) {
            for (int mode = 1; mode <= 3; mode++) {
                if (hasMode(loop, mode)) {
                    Edge.refused("promise 9, mode " + mode, Edge.inMode(loop, mode), Bench.STATE, "setHand", loop, 17);
                }
            }
        }
    }

    private static void promise9AnswersTheHandValueBefore() {
        Bench b = new Bench("promise 9, the hand value before");
        b.due(0, "setHand", 0, 1000000);
        b.refused(Bench.ARGUMENT, "setHand", 0, 1000001);
        // The limits hold the output, not the value itself.
        b.due(1, "run", 1);
        b.due(100000, "output", 0);
        b.due(1000000, "setHand", 0, -1000000);
        b.refused(Bench.ARGUMENT, "setHand", 0, -1000001);
        b.due(2, "run", 1);
        b.due(0, "output", 0);
        b.due(-1000000, "setHand", 0, 3);
        b.due(0, "setHand", 1, 3);
        b.due(3, "setHand", 0, 3);
    }

    private static void promise9FirstException() {
        for (int mode : new int[] {1, 2, 3}) {
            Edge.noSuchLoop("promise 9, the loop first", Edge.inMode(1, mode), "setHand", 0, 1000001);
            Edge.refused("promise 9, the range ahead of the mode", Edge.inMode(1, mode), Bench.ARGUMENT, "setHand", 1,
                1000001);
            Edge.refused("promise 9, the range ahead of the mode", Edge.inMode(1, mode), Bench.ARGUMENT, "setHand", 1,
                -1000001);
        }
    }

    private static void promise10NoSuchLoop() {
        Edge.loops("promise 10, loops", Edge.FRESH, "setTies", 0, 1, 0);
        Edge.noSuchLoop("promise 10, loops", Edge.FRESH, "setTies", 0, 1, 1);
    }

    private static void promise10NoMasterForLoopZero() {
        for (int follows = 0; follows <= 1; follows++) {
            Edge.refused("promise 10, false for loop 0", Edge.FRESH, Bench.ARGUMENT, "setTies", 0, follows, 1);
            for (int mode : new int[] {0, 1, 3}) {
                Edge.refused("promise 10, false for loop 0", Edge.inMode(0, mode), Bench.ARGUMENT, "setTies", 0,
                    follows, 1);
                Edge.taken("promise 10, loop 0", Edge.inMode(0, mode), "setTies", 0, follows, 0);
            }
            Edge.taken("promise 10, loop 1", Edge.FRESH, "setTies", 1, follows, 1);
            Edge.taken("promise 10, loop 2", Edge.FRESH, "setTies", 2, follows, 1);
        }
    }

    private static void promise10NoWayOutOfTheMasterInCascade() {
        for (int loop = 1; loop < 3; loop++) {
            for (int follows = 0; follows <= 1; follows++) {
                Edge.refused("promise 10, in cascade", Edge.inMode(loop, 2), Bench.STATE, "setTies", loop, follows, 0);
                Edge.taken("promise 10, the master stays", Edge.inMode(loop, 2), "setTies", loop, follows, 1);
            }
        }
    }

    private static void promise10MasterMayGoInTheOtherModes() {
        for (int mode : new int[] {0, 1, 3}) {
            for (int loop = 1; loop < 3; loop++) {
                Edge.taken("promise 10, mode " + mode, Edge.inMode(loop, mode), "setTies", loop, 0, 0);
                Edge.taken("promise 10, mode " + mode, Edge.inMode(loop, mode), "setTies", loop, 1, 1);
            }
        }
        Bench b = new Bench("promise 10, behind the cascade");
        b.done("setTies", 2, 0, 1);
        b.due(0, "setMode", 2, 2);
        b.refused(Bench.STATE, "setTies", 2, 0, 0);
        b.due(2, "setMode", 2, 1);
        b.done("setTies", 2, 0, 0);
        b.refused(Bench.STATE, "setMode", 2, 2);
    }

    private static void promise10RefusedLeavesFollows() {
        for (int follows = 0; follows <= 1; follows++) {
            Bench b = new Bench("promise 10, follows is " + follows + " still");
            b.done("setTies", 1, follows, 1);
            b.due(0, "setHand", 1, 500);
            b.due(1, "run", 1);
            b.due(0, "setMode", 1, 2);
            b.refused(Bench.STATE, "setTies", 1, 1 - follows, 0);
            b.due(2, "setMode", 1, 0);
            b.due(0, "setSetpoint", 1, 77);
            b.due(2, "run", 1);
            b.due(follows == 1 ? 100 : 77, "setpoint", 1);
        }
        Bench c = new Bench("promise 10, loop 0 does not follow");
        c.due(0, "setHand", 0, 500);
        c.refused(Bench.ARGUMENT, "setTies", 0, 1, 1);
        c.due(2, "run", 2);
        c.due(0, "setpoint", 0);
    }

    private static void promise10FirstException() {
        Edge.noSuchLoop("promise 10, the loop first", Edge.inMode(1, 2), "setTies", 0, 0, 0);
        Edge.noSuchLoop("promise 10, the loop first", Edge.inMode(1, 2), "setTies", 0, 0, 1);
    }

    private static void promise11NoSuchLoop() {
        Edge.loops("promise 11, loops", Edge.FRESH, "setMode", 0, 1);
        Edge.noSuchLoop("promise 11, loops", Edge.inMode(0, 3), "setMode", 0, 1);
    }

    private static void promise11Range() {
        for (int loop = 1; loop < 3; loop++) {
            for (int mode : new int[] {0, 1, 2}) {
                Edge.range("promise 11, mode is 0 to 2", Edge.inMode(loop, mode), "setMode", new int[] {loop, 0}, 1, 0,
                    2);
            }
        }
    }

    private static void promise11RelayLeavesByHandAlone() {
        for (int loop = 0; loop < 3; loop++) {
            Edge.refused("promise 11, from 3 to 1", Edge.inMode(loop, 3), Bench.STATE, "setMode", loop, 1);
            Edge.refused("promise 11, from 3 to 2", Edge.inMode(loop, 3), Bench.STATE, "setMode", loop, 2);
            Edge.taken("promise 11, from 3 to 0", Edge.inMode(loop, 3), "setMode", loop, 0);
        }
    }

    private static void promise11CascadeNeedsAMaster() {
        for (int loop = 0; loop < 3; loop++) {
            int one = loop;
            Edge.refused("promise 11, no master", Edge.FRESH, Bench.STATE, "setMode", loop, 2);
            Edge.refused("promise 11, no master", b -> b.due(0, "setMode", one, 1), Bench.STATE, "setMode", loop, 2);
        }
        for (int mode : new int[] {0, 1, 3}) {
            Edge.refused("promise 11, loop 0", Edge.inMode(0, mode), Bench.STATE, "setMode", 0, 2);
        }
        // A master of one loop is none of the other.
        Edge.refused("promise 11, the other's master", b -> b.done("setTies", 2, 0, 1), Bench.STATE, "setMode", 1, 2);
        Edge.refused("promise 11, the other's master", b -> b.done("setTies", 1, 0, 1), Bench.STATE, "setMode", 2, 2);
        Edge.taken("promise 11, its master", b -> b.done("setTies", 1, 0, 1), "setMode", 1, 2);
        Edge.taken("promise 11, its master", b -> b.done("setTies", 2, 0, 1), "setMode", 2, 2);
    }

    private static void promise11NothingHappensInThatMode() {
        Bench hand = new Bench("promise 11, from hand to hand");
        hand.due(0, "setHand", 0, 400);
        hand.due(1, "run", 1);
        hand.due(400, "setHand", 0, 900);
        hand.due(0, "setMode", 0, 0);
        hand.due(900, "setHand", 0, 900);
        for (int mode = 1; mode <= 2; mode++) {
            Bench b = new Bench("promise 11, from " + mode + " to " + mode);
            b.done("setTies", 1, 0, 1);
            b.due(0, "setSetpoint", 1, 5000);
            b.due(0, "setHand", 0, 6000);
            b.due(0, "setMode", 1, mode);
            b.due(3, "run", 3);
            String integral = b.ask("integral", 1);
            b.due(mode, "setMode", 1, mode);
            b.answerDue(integral, "integral", 1);
            // Not settled: the sum by increments goes on from what it was.
            String before = b.ask("outputByIncrements", 1);
            b.due(4, "run", 1);
            b.answerDue(b.ask("output", 1), "outputByIncrements", 1);
            Bench.expect("it has gone on", b.ask("outputByIncrements", 1).equals(before) ? "no" : "yes", "yes");
        }
    }

    private static void promise11AnswersTheModeBefore() {
        Bench b = new Bench("promise 11, the mode before");
        b.done("setTies", 1, 0, 1);
        int before = 0;
        for (int mode : new int[] {0, 1, 1, 2, 2, 1, 0, 2, 0, 0}) {
            b.due(before, "setMode", 1, mode);
            b.refused(Bench.ARGUMENT, "setMode", 1, 3);
            b.refused(Bench.ARGUMENT, "setMode", 1, -1);
            b.due(mode, "mode", 1);
            before = mode;
        }
        b.due(0, "setMode", 1, 1);
        b.done("startRelay", 1, 1, 0);
        b.due(3, "setMode", 1, 0);
        b.due(0, "setMode", 1, 0);
    }

    private static void promise11AheadOfTheFirstSample() {
        Bench b = new Bench("promise 11, ahead of the first sample");
        b.due(0, "setHand", 0, 500);
        b.due(0, "setSetpoint", 0, 30);
        b.due(0, "setMode", 0, 1);
        // Settled at 0, not at the hand value.
        b.due(-30000, "integral", 0);
        b.due(1, "setMode", 0, 0);
        b.due(0, "setHand", 0, 500);
        b.due(0, "setMode", 0, 1);
        b.done("startRelay", 0, 10, 0);
        b.due(3, "setMode", 0, 0);
        b.due(0, "setHand", 0, 0);
    }

    private static void promise11FirstException() {
        Edge.noSuchLoop("promise 11, the loop first", Edge.inMode(0, 3), "setMode", 0, 3);
        for (int loop = 0; loop < 3; loop++) {
            for (int mode : new int[] {-1, 3, Integer.MIN_VALUE, Integer.MAX_VALUE}) {
                Edge.refused("promise 11, the range ahead of the mode", Edge.inMode(loop, 3), Bench.ARGUMENT, "setMode",
                    loop, mode);
            }
            Edge.refused("promise 11, the range ahead of the master", Edge.FRESH, Bench.ARGUMENT, "setMode", loop, 3);
        }
    }
}
