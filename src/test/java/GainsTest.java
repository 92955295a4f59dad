/** Promises 4, 5, 17 and 18: gains, schedules and the integral. */
final class GainsTest {
    public static void main(String[] args) {
        setGainsKeepsTheSum();
        setGainsTakesTheScheduleAway();
        pointsComeByRisingMeasures();
        fivePointsAtTheMost();
        gainsBetweenTwoPoints();
        gainsBetweenTheLastTwoOfFive();
        onePointHoldsEverywhere();
        onlyAutomaticSamplesFollowTheSchedule();
        scheduleKeepsTheSum();
        cascadeChangesTheSetpointAheadOfTheGains();
        integralGrowsByTheError();
        Bench.finish();
    }

    /** A plant whose measure grows by the load at each sample. */
    private static Bench stepping(String title, int load) {
        Bench b = new Bench(title);
        b.done("setPlant", 0, 1000, 0, 0, 0);
        b.due(0, "setLoad", 0, load);
        return b;
    }

    private static void gains(Bench b, long p, long i, long d) {
        b.due(p, "gain", 0, 0);
        b.due(i, "gain", 0, 1);
        b.due(d, "gain", 0, 2);
    }

    private static void setGainsKeepsTheSum() {
        Bench b = new Bench("promise 4, the sum stays");
        b.due(0, "setSetpoint", 0, 20000);
        b.due(0, "setGains", 0, 3000, 50, 500);
        gains(b, 3000, 50, 500);
        b.due(-40000000, "integral", 0);
        b.due(0, "setHand", 0, 5000);
        b.due(1, "run", 1);
        // Now the error is 19000 and the rate is -1000.
        b.due(0, "setGains", 0, 1000, 100, 700);
        b.due(-1800000, "integral", 0);
        b.due(0, "setGains", 0, 1000, -5000, 700);
        b.due(-1800000, "integral", 0);
        b.due(0, "integral", 1);
        b.due(1000, "gain", 1, 0);
    }

    private static void setGainsTakesTheScheduleAway() {
        Bench b = new Bench("promise 4, schedules");
        b.due(1, "addPoint", 0, 0, 1, 2, 3);
        b.due(2, "addPoint", 0, 10, 4, 5, 6);
        b.due(2, "setGains", 0, 7, 8, 9);
        b.due(0, "setMode", 0, 1);
        b.due(1, "run", 1);
        gains(b, 7, 8, 9);
        b.due(0, "setGains", 0, 7, 8, 9);
        b.due(1, "addPoint", 0, -5, 1, 2, 3);
        b.due(2, "run", 1);
        gains(b, 1, 2, 3);
    }

    private static void pointsComeByRisingMeasures() {
        Bench b = new Bench("promise 5, rising measures");
        b.due(1, "addPoint", 1, -1000000, -20000, -5000, -50000);
        b.refused(Bench.ARGUMENT, "addPoint", 1, -1000000, 1, 1, 1);
        b.due(2, "addPoint", 1, -999999, 20000, 5000, 50000);
        b.due(3, "addPoint", 1, 10, 1, 1, 1);
        b.refused(Bench.ARGUMENT, "addPoint", 1, 9, 1, 1, 1);
        b.refused(Bench.ARGUMENT, "addPoint", 1, 10, 1, 1, 1);
        b.due(4, "addPoint", 1, 11, 1, 1, 1);
        b.due(5, "addPoint", 1, 1000000, 1, 1, 1);
        b.due(1, "addPoint", 2, 5, 1, 1, 1);
    }

    private static void fivePointsAtTheMost() {
        Bench b = new Bench("promise 5, five points");
        for (int n = 1; n <= 5; n++) {
            b.due(n, "addPoint", 0, n, n, n, n);
        }
        b.refused(Bench.STATE, "addPoint", 0, 6, 6, 6, 6);
        b.refused(Bench.ARGUMENT, "addPoint", 0, 5, 6, 6, 6);
        b.refused(Bench.ARGUMENT, "addPoint", 0, 6, 20001, 6, 6);
        b.due(5, "setGains", 0, 1, 1, 1);
        b.due(1, "addPoint", 0, -6, 6, 6, 6);
    }

    private static void gainsBetweenTwoPoints() {
        Bench b = stepping("promise 18, between two points", 1);
        b.due(1, "addPoint", 0, 1, 10, 20, 30);
        b.due(2, "addPoint", 0, 4, 9, 21, 25);
        b.due(0, "setMode", 0, 1);
        gains(b, 1000, 100, 0);
        long[][] due = {{10, 20, 30}, {10, 20, 30}, {9, 20, 28}, {9, 20, 26}, {9, 21, 25}, {9, 21, 25}};
        for (int k = 0; k < due.length; k++) {
            b.due(k + 1, "run", 1);
            gains(b, due[k][0], due[k][1], due[k][2]);
        }
    }

    private static void gainsBetweenTheLastTwoOfFive() {
        Bench b = stepping("promise 18, five points", 50);
        int[][] points = {{-100, 0, 0, 0}, {0, -20000, 5000, 50000}, {100, 20000, -5000, -50000}, {150, 1, 2, 3},
            {350, 401, 0, -997}};
        for (int n = 0; n < points.length; n++) {
            b.due(n + 1, "addPoint", 0, points[n][0], points[n][1], points[n][2], points[n][3]);
        }
        b.due(0, "setMode", 0, 1);
        long[][] due = {{-20000, 5000, 50000}, {0, 0, 0}, {20000, -5000, -50000}, {1, 2, 3}, {101, 1, -247},
            {201, 1, -497}, {301, 0, -747}, {401, 0, -997}, {401, 0, -997}};
        for (int k = 0; k < due.length; k++) {
            b.due(k + 1, "run", 1);
            gains(b, due[k][0], due[k][1], due[k][2]);
        }
    }

    private static void onePointHoldsEverywhere() {
        Bench b = stepping("promise 18, one point", 10);
        b.due(1, "addPoint", 0, 10, 5, 6, 7);
        b.due(0, "setMode", 0, 1);
        for (int k = 1; k <= 3; k++) {
            b.due(k, "run", 1);
            gains(b, 5, 6, 7);
        }
    }

    private static void onlyAutomaticSamplesFollowTheSchedule() {
        Bench b = new Bench("promise 5, the next automatic sample");
        b.due(1, "addPoint", 0, 0, 1, 2, 3);
        b.due(1, "run", 1);
        gains(b, 1000, 100, 0);
        b.done("setTies", 1, 0, 1);
        b.due(0, "setMode", 0, 1);
        b.due(2, "run", 1);
        b.due(1, "wasStarved", 0);
        gains(b, 1000, 100, 0);
        b.done("setTies", 1, 0, 0);
        b.done("startRelay", 0, 1, 0);
        b.due(2, "addPoint", 0, 1, 4, 5, 6);
        b.due(3, "run", 1);
        gains(b, 1000, 100, 0);
        b.due(3, "setMode", 0, 0);
        b.due(0, "setMode", 0, 1);
        gains(b, 1000, 100, 0);
        b.due(4, "run", 1);
        gains(b, 1, 2, 3);
    }

    private static void scheduleKeepsTheSum() {
        Bench b = stepping("promise 17, a schedule and the integral", 100);
        b.due(1, "run", 1);
        b.due(0, "setSetpoint", 0, 1100);
        b.due(1, "addPoint", 0, 0, 400, 0, 30);
        b.due(0, "setMode", 0, 1);
        // Error 1000 and rate -100: settled at 0.
        b.due(-1000000, "integral", 0);
        b.due(2, "run", 1);
        // 600 * 1000 less 30 * -100 more.
        b.due(-397000, "integral", 0);
        b.due(0, "output", 0);
        b.due(1, "setGains", 0, 400, 10, 0);
        // Error 900 and rate -100.
        b.due(-400000, "integral", 0);
    }

    private static void cascadeChangesTheSetpointAheadOfTheGains() {
        Bench b = new Bench("promise 17, gains in cascade");
        b.done("setTies", 1, 0, 1);
        b.due(1, "addPoint", 1, 0, 2000, 0, 0);
        b.due(0, "setHand", 0, 10000);
        b.due(0, "setMode", 1, 2);
        b.due(1, "run", 1);
        b.due(10000, "setpoint", 1);
        b.due(-10000000, "integral", 1);
        b.due(10000, "output", 1);
    }

    private static void integralGrowsByTheError() {
        Bench b = new Bench("promise 17, the integral");
        b.done("setPlant", 0, 0, 0, 0, 0);
        b.due(0, "setMode", 0, 1);
        b.due(0, "setSetpoint", 0, 300);
        b.due(2, "run", 2);
        b.due(60000, "integral", 0);
        b.due(300, "setSetpoint", 0, -1000000);
        b.due(0, "setGains", 0, 1000, 5000, 0);
        b.due(202, "run", 200);
        b.due(-999999940000L, "integral", 0);
    }
}
