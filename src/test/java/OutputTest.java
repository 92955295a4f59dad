/** Promises 6, 7, 9, 14, 15 and 21: limits, guards, hand values, outputs, and what was held. */
final class OutputTest {
    public static void main(String[] args) {
        limitsHoldTheHandValue();
        limitsHoldFromTheNextSampleOn();
        heldCountsOnlyWhatIsBeyondTheLimits();
        heldIsNotCountedInHandRelayOrStarved();
        handValues();
        guardNothing();
        guardClampingAbove();
        guardClampingBelow();
        guardClampingLeavesWhatUnwinds();
        guardClampingByTheLeastError();
        guardBackCalculation();
        guardAnswersTheOneBefore();
        wantedRoundsDown();
        rateActs();
        incrementsFollowTheSum();
        incrementsWithRateAndNewGains();
        incrementsBeginAgainBehindSettling();
        incrementsGoOnAcrossACascade();
        Bench.finish();
    }

    /** A loop 0 whose measure stays 0, in automatic with the setpoint 0 and the integral 0. */
    private static Bench still(String title) {
        Bench b = new Bench(title);
        b.done("setPlant", 0, 0, 0, 0, 0);
        b.due(0, "setMode", 0, 1);
        b.due(0, "integral", 0);
        return b;
    }

    private static void limitsHoldTheHandValue() {
        Bench b = new Bench("promise 6, hand");
        b.done("setLimits", 0, -10, 20);
        b.due(0, "setHand", 0, 21);
        b.due(1, "run", 1);
        b.due(20, "output", 0);
        b.due(21, "setHand", 0, -11);
        b.due(2, "run", 1);
        b.due(-10, "output", 0);
        b.due(-11, "setHand", 0, -10);
        b.due(3, "run", 1);
        b.due(-10, "output", 0);
        b.done("setLimits", 0, 5, 5);
        b.due(4, "run", 1);
        b.due(5, "output", 0);
        b.due(-10, "setHand", 0, 0);
        b.due(0, "output", 1);
    }

    private static void limitsHoldFromTheNextSampleOn() {
        Bench b = still("promise 6, the next sample");
        b.due(0, "setSetpoint", 0, 5000);
        b.due(1, "run", 1);
        b.due(5500, "output", 0);
        b.done("setLimits", 0, 100, 200);
        b.due(5500, "output", 0);
        b.due(2, "run", 1);
        b.due(200, "output", 0);
        b.due(5000, "setSetpoint", 0, -5000);
        b.due(3, "run", 1);
        b.due(100, "output", 0);
    }

    private static void heldCountsOnlyWhatIsBeyondTheLimits() {
        Bench b = still("promise 21, at the limits");
        b.due(0, "setGains", 0, 1000, 0, 0);
        b.done("setLimits", 0, -5000, 10000);
        int[][] setpoints = {{10000, 0}, {10001, 1}, {9999, 1}, {-5000, 1}, {-5001, 2}, {0, 2}};
        for (int k = 0; k < setpoints.length; k++) {
            b.ask("setSetpoint", 0, setpoints[k][0]);
            b.due(k + 1, "run", 1);
            b.due(setpoints[k][1], "held", 0);
        }
        b.due(0, "held", 1);
    }

    private static void heldIsNotCountedInHandRelayOrStarved() {
        Bench b = still("promise 21, other samples");
        b.done("setLimits", 0, 0, 10);
        b.due(0, "setSetpoint", 0, 5000);
        b.due(3, "run", 3);
        b.due(3, "held", 0);
        b.done("startRelay", 0, 500, 0);
        b.due(5, "run", 2);
        b.due(10, "output", 0);
        b.due(3, "held", 0);
        b.due(3, "setMode", 0, 0);
        b.due(10, "setHand", 0, 500);
        b.due(7, "run", 2);
        b.due(3, "held", 0);
        b.done("setTies", 1, 0, 1);
        b.due(0, "setSetpoint", 1, 500);
        b.due(0, "setMode", 0, 1);
        b.due(9, "run", 2);
        b.due(1, "wasStarved", 0);
        b.due(10, "output", 0);
        b.due(3, "held", 0);
        // In cascade a held sample counts as well.
        b.done("setLimits", 1, 0, 1);
        b.due(0, "setMode", 1, 2);
        b.due(10, "run", 1);
        b.due(1, "held", 1);
    }

    private static void handValues() {
        Bench b = new Bench("promise 9, hand");
        b.due(0, "setHand", 0, 1000000);
        b.due(1000000, "setHand", 0, -1000000);
        b.due(0, "output", 0);
        b.due(-1000000, "setHand", 0, 777);
        b.due(1, "run", 1);
        b.due(777, "output", 0);
        b.due(777, "setHand", 0, 778);
        b.due(777, "output", 0);
        b.due(0, "setHand", 1, 5);
        b.due(0, "setMode", 0, 1);
        b.refused(Bench.STATE, "setHand", 0, 1);
        b.due(1, "setMode", 0, 0);
        // Its latest output, not the value that no sample has seen.
        b.due(777, "setHand", 0, 1);
        b.due(0, "setMode", 0, 0);
        b.due(1, "setHand", 0, 2);
    }

    private static void guardNothing() {
        Bench b = still("promise 7, guard 0");
        b.done("setLimits", 0, 0, 10000);
        b.due(0, "setSetpoint", 0, 20000);
        b.due(3, "run", 3);
        b.due(6000000, "integral", 0);
        b.due(10000, "output", 0);
    }

    private static void guardClampingAbove() {
        Bench b = still("promise 7, guard 1 above");
        b.done("setLimits", 0, 0, 10000);
        b.due(0, "setGuard", 0, 1, 1000);
        b.due(0, "setSetpoint", 0, 20000);
        b.due(3, "run", 3);
        b.due(0, "integral", 0);
        b.due(20000, "setSetpoint", 0, 9000);
        b.due(4, "run", 1);
        b.due(9900, "output", 0);
        b.due(900000, "integral", 0);
        // 9000 + 1800 is above the limit, so the second 900000 is taken off.
        b.due(5, "run", 1);
        b.due(10000, "output", 0);
        b.due(900000, "integral", 0);
        // Exactly at the limit nothing is taken off.
        b.done("setLimits", 0, 0, 10800);
        b.due(6, "run", 1);
        b.due(10800, "output", 0);
        b.due(1800000, "integral", 0);
    }

    private static void guardClampingBelow() {
        Bench b = still("promise 7, guard 1 below");
        b.done("setLimits", 0, -1000, 1000);
        b.due(0, "setGuard", 0, 1, 0);
        b.due(0, "setSetpoint", 0, -20000);
        b.due(2, "run", 2);
        b.due(0, "integral", 0);
        b.due(-1000, "output", 0);
        b.due(-20000, "setSetpoint", 0, -900);
        b.due(3, "run", 1);
        b.due(-990, "output", 0);
        b.due(-90000, "integral", 0);
        b.due(4, "run", 1);
        b.due(-1000, "output", 0);
        b.due(-90000, "integral", 0);
        b.done("setLimits", 0, -1080, 1000);
        b.due(5, "run", 1);
        b.due(-1080, "output", 0);
        b.due(-180000, "integral", 0);
    }

    private static void guardClampingLeavesWhatUnwinds() {
        Bench b = still("promise 7, guard 1 unwinding");
        b.done("setLimits", 0, -10000, 10000);
        b.due(0, "setSetpoint", 0, 100000);
        b.due(3, "run", 3);
        b.due(30000000, "integral", 0);
        b.due(0, "setGuard", 0, 1, 0);
        b.due(100000, "setSetpoint", 0, -1000);
        b.due(4, "run", 1);
        b.due(10000, "output", 0);
        b.due(29900000, "integral", 0);
        b.due(-1000, "setSetpoint", 0, 0);
        b.due(5, "run", 1);
        b.due(29900000, "integral", 0);
        b.due(1, "setGuard", 0, 0, 0);
        b.due(0, "setSetpoint", 0, -1000000);
        b.due(6, "run", 1);
        b.due(-70100000, "integral", 0);
        b.due(0, "setGuard", 0, 1, 0);
        b.due(-1000000, "setSetpoint", 0, 1000);
        b.due(7, "run", 1);
        b.due(-10000, "output", 0);
        b.due(-70000000, "integral", 0);
    }

    private static void guardClampingByTheLeastError() {
        Bench b = still("promise 7, guard 1 and errors of 1");
        b.done("setLimits", 0, 0, 0);
        b.due(0, "setGuard", 0, 1, 0);
        b.due(0, "setSetpoint", 0, 1);
        b.due(1, "run", 1);
        b.due(0, "integral", 0);
        b.due(1, "setSetpoint", 0, -1);
        b.due(2, "run", 1);
        b.due(0, "integral", 0);
        b.due(2, "held", 0);
    }

    private static void guardBackCalculation() {
        Bench b = still("promise 7, guard 2");
        b.done("setLimits", 0, -10000, 10000);
        b.due(0, "setGuard", 0, 2, 250);
        b.due(0, "setSetpoint", 0, 20000);
        b.due(1, "run", 1);
        // 2000000, less 250 times (22000 - 10000).
        b.due(-1000000, "integral", 0);
        b.due(20000, "setSetpoint", 0, -20000);
        b.due(2, "run", 1);
        // -3000000, and 250 times (23000 - 10000) more.
        b.due(250000, "integral", 0);
        b.due(-20000, "setSetpoint", 0, 1000);
        b.due(3, "run", 1);
        b.due(1350, "output", 0);
        b.due(350000, "integral", 0);
        b.due(2, "setGuard", 0, 2, 1000);
        b.due(1000, "setSetpoint", 0, 20000);
        b.due(4, "run", 1);
        b.due(-10000000, "integral", 0);
        b.due(2, "setGuard", 0, 2, 0);
        b.due(5, "run", 1);
        b.due(-8000000, "integral", 0);
    }

    private static void guardAnswersTheOneBefore() {
        Bench b = new Bench("promise 7, answers");
        b.due(0, "setGuard", 1, 2, 0);
        b.due(2, "setGuard", 1, 1, 1000);
        b.due(1, "setGuard", 1, 0, 500);
        b.due(0, "setGuard", 1, 0, 500);
        b.due(0, "setGuard", 0, 1, 1);
        b.due(0, "setGuard", 2, 1, 1);
    }

    private static void wantedRoundsDown() {
        Bench b = still("promise 14, rounding");
        b.done("setLimits", 0, -100, 100);
        b.due(0, "setGains", 0, 1, 0, 0);
        b.due(0, "setSetpoint", 0, -1);
        b.due(1, "run", 1);
        b.due(-1, "output", 0);
        b.due(-1, "outputByIncrements", 0);
        b.due(-1, "setSetpoint", 0, 1);
        b.due(2, "run", 1);
        b.due(0, "output", 0);
        b.due(0, "outputByIncrements", 0);
        b.due(1, "setSetpoint", 0, -1001);
        b.due(3, "run", 1);
        b.due(-2, "output", 0);
        b.due(-2, "outputByIncrements", 0);
    }

    private static void rateActs() {
        Bench b = new Bench("promise 14, the rate");
        b.done("setPlant", 0, 1000, 0, 0, 0);
        b.due(0, "setLoad", 0, -10);
        b.due(0, "setGains", 0, 0, 0, 5000);
        b.due(0, "setMode", 0, 1);
        b.due(1, "run", 1);
        b.due(0, "output", 0);
        b.due(2, "run", 1);
        b.due(50, "output", 0);
        b.due(-10, "setLoad", 0, -30);
        b.due(3, "run", 1);
        b.due(50, "output", 0);
        b.due(4, "run", 1);
        b.due(150, "output", 0);
        b.due(150, "outputByIncrements", 0);
    }

    private static void incrementsFollowTheSum() {
        Bench b = still("promise 15, increments");
        b.due(0, "outputByIncrements", 0);
        b.due(0, "setSetpoint", 0, 10000);
        b.due(1, "run", 1);
        b.due(11000, "outputByIncrements", 0);
        b.due(2, "run", 1);
        b.due(12000, "outputByIncrements", 0);
        b.due(12000, "output", 0);
        b.due(10000, "setSetpoint", 0, 5000);
        b.due(3, "run", 1);
        b.due(7500, "outputByIncrements", 0);
        b.due(7500, "output", 0);
        b.due(0, "outputByIncrements", 1);
    }

    private static void incrementsWithRateAndNewGains() {
        Bench b = new Bench("promise 15, rate and gains");
        b.done("setPlant", 0, 1000, 0, 0, 0);
        b.due(0, "setLoad", 0, 100);
        b.due(0, "setGains", 0, 1000, 10, 200);
        b.due(0, "setMode", 0, 1);
        b.due(1, "run", 1);
        b.due(0, "outputByIncrements", 0);
        // Errors 0, -100, -200 and rates 0, -100, -100: the gains of the later sample count.
        b.due(2, "run", 1);
        b.due(-121, "outputByIncrements", 0);
        b.due(0, "setGains", 0, 2000, 20, 300);
        b.due(3, "run", 1);
        b.due(-325, "outputByIncrements", 0);
        b.due(100, "setLoad", 0, 0);
        b.due(4, "run", 1);
        // Error -300, rate -100: 2000 * -100 and 20 * -300.
        b.due(-531, "outputByIncrements", 0);
        b.due(5, "run", 1);
        // Error -300, rate 0: 20 * -300 and 300 * 100.
        b.due(-507, "outputByIncrements", 0);
    }

    private static void incrementsBeginAgainBehindSettling() {
        Bench b = still("promise 15, settled between");
        b.done("setLimits", 0, 0, 6000);
        b.due(0, "setGuard", 0, 1, 0);
        b.due(0, "setSetpoint", 0, 10000);
        b.due(2, "run", 2);
        b.due(0, "integral", 0);
        b.due(12000, "outputByIncrements", 0);
        b.due(1, "setMode", 0, 0);
        b.due(0, "setMode", 0, 1);
        b.due(-4000000, "integral", 0);
        b.due(12000, "outputByIncrements", 0);
        b.due(3, "run", 1);
        b.due(7000, "outputByIncrements", 0);
        b.due(4, "run", 1);
        b.due(8000, "outputByIncrements", 0);
        b.due(1, "setMode", 0, 0);
        b.due(5, "run", 1);
        b.due(8000, "outputByIncrements", 0);
        b.due(0, "setMode", 0, 1);
        b.due(6, "run", 1);
        b.due(7000, "outputByIncrements", 0);
        b.done("setTies", 1, 0, 1);
        b.due(7, "run", 1);
        b.due(1, "wasStarved", 0);
        b.due(7000, "outputByIncrements", 0);
        b.done("setTies", 1, 0, 0);
        b.due(8, "run", 1);
        b.due(1000, "outputByIncrements", 0);
    }

    private static void incrementsGoOnAcrossACascade() {
        Bench b = new Bench("promise 15, automatic and cascade");
        b.done("setPlant", 1, 0, 0, 0, 0);
        b.done("setTies", 1, 0, 1);
        b.due(0, "setMode", 1, 1);
        b.due(0, "setGuard", 1, 1, 0);
        b.done("setLimits", 1, 0, 500);
        b.due(0, "setSetpoint", 1, 1000);
        b.due(0, "setHand", 0, 2000);
        b.due(1, "run", 1);
        b.due(1100, "outputByIncrements", 1);
        b.due(1, "setMode", 1, 2);
        b.due(2, "run", 1);
        // 1000 * 1000 and 100 * 2000 more, where the sum would be 2200.
        b.due(2300, "outputByIncrements", 1);
        b.due(2, "setMode", 1, 1);
        b.due(3, "run", 1);
        b.due(2500, "outputByIncrements", 1);
    }
}
