/** Promises 8, 10, 11, 16, 19 and 20: setpoints, ties, modes and starved loops. */
final class ModeTest {
    public static void main(String[] args) {
        setpoints();
        modesAndTheirAnswers();
        handToAutomaticIsSettled();
        handToCascadeIsSettledWithTheSetpointAsItIs();
        automaticAndCascadeChangeNothing();
        toHandTakesTheLatestOutput();
        followsInHandAlone();
        cascadeTakesTheOutputOfTheSameSample();
        cascadeNeedsAMaster();
        masterCannotGoInCascade();
        starvedByEachOtherMode();
        starvedTakesTheSetpointAheadOfItsTurn();
        starvedIsHeldAndSettled();
        starvedInCascadeTakesItsSetpoint();
        handAndRelayAreNotStarved();
        Bench.finish();
    }

    private static void setpoints() {
        Bench b = new Bench("promises 8 and 16, setpoints");
        b.due(0, "setSetpoint", 2, 1000000);
        b.due(1000000, "setpoint", 2);
        b.due(1000000, "setSetpoint", 2, -1000000);
        b.due(-1000000, "setpoint", 2);
        b.due(0, "setpoint", 1);
        b.due(5, "run", 5);
        b.due(-1000000, "setSetpoint", 2, 12);
        b.due(0, "setMode", 2, 1);
        b.due(12, "setSetpoint", 2, 13);
        b.due(-12000, "integral", 2);
        b.done("startRelay", 2, 1, 1);
        b.due(13, "setSetpoint", 2, 14);
        b.due(14, "setpoint", 2);
    }

    private static void modesAndTheirAnswers() {
        Bench b = new Bench("promises 11 and 19, answers");
        b.done("setTies", 1, 0, 1);
        b.due(0, "setMode", 1, 0);
        b.due(0, "setMode", 1, 2);
        b.due(2, "mode", 1);
        b.due(2, "setMode", 1, 2);
        b.due(2, "setMode", 1, 1);
        b.due(1, "mode", 1);
        b.due(1, "setMode", 1, 1);
        b.done("startRelay", 1, 1, 1);
        b.due(3, "mode", 1);
        b.refused(Bench.STATE, "setMode", 1, 1);
        b.refused(Bench.STATE, "setMode", 1, 2);
        b.due(3, "mode", 1);
        b.due(3, "setMode", 1, 0);
        b.due(0, "mode", 1);
        b.due(0, "mode", 0);
        b.due(0, "mode", 2);
    }

    private static void handToAutomaticIsSettled() {
        Bench b = new Bench("promise 11, hand to automatic");
        b.due(0, "setGains", 0, 500, 10, 40);
        b.due(0, "setHand", 0, 10000);
        b.due(2, "run", 2);
        // y is 3600, 2000 before.
        b.due(0, "setSetpoint", 0, 5000);
        b.due(10000, "setHand", 0, 7);
        b.due(0, "setMode", 0, 1);
        b.due(10000000 - 500 * 1400 + 40 * 1600, "integral", 0);
        // Nothing happens in the mode in which it is.
        b.due(5000, "setSetpoint", 0, 6000);
        b.due(1, "setMode", 0, 1);
        b.due(10000000 - 500 * 1400 + 40 * 1600, "integral", 0);
        b.due(6000, "setSetpoint", 0, 5000);
        b.due(3, "run", 1);
        b.due(10014, "output", 0);
    }

    private static void handToCascadeIsSettledWithTheSetpointAsItIs() {
        Bench b = new Bench("promise 11, hand to cascade");
        b.done("setTies", 1, 0, 1);
        b.due(0, "setHand", 0, 9000);
        b.due(0, "setSetpoint", 1, 1000);
        b.due(0, "setHand", 1, 300);
        b.due(1, "run", 1);
        b.due(0, "setMode", 1, 2);
        // Settled at 300 with the error 1000 - 60.
        b.due(300000 - 940000, "integral", 1);
        b.due(1000, "setpoint", 1);
        b.due(2, "run", 1);
        b.due(9000, "setpoint", 1);
        b.due(300000 - 940000 + 894000, "integral", 1);
        b.due(8940 + 254, "output", 1);
    }

    private static void automaticAndCascadeChangeNothing() {
        Bench b = new Bench("promise 11, automatic and cascade");
        b.done("setTies", 1, 0, 1);
        b.due(0, "setMode", 1, 1);
        b.due(0, "setSetpoint", 1, 4000);
        b.due(5, "run", 5);
        String integral = b.ask("integral", 1);
        String output = b.ask("output", 1);
        b.due(1, "setMode", 1, 2);
        b.answerDue(integral, "integral", 1);
        b.answerDue(output, "output", 1);
        b.due(4000, "setpoint", 1);
        b.due(2, "setMode", 1, 1);
        b.answerDue(integral, "integral", 1);
        b.due(4000, "setpoint", 1);
    }

    private static void toHandTakesTheLatestOutput() {
        Bench b = new Bench("promise 11, to hand");
        b.due(0, "setMode", 0, 1);
        b.due(0, "setSetpoint", 0, 10000);
        b.due(1, "run", 1);
        b.due(11000, "output", 0);
        b.due(1, "setMode", 0, 0);
        b.due(2, "run", 1);
        b.due(11000, "output", 0);
        b.due(11000, "setHand", 0, 5);
        b.done("setTies", 1, 0, 1);
        b.due(0, "setMode", 1, 2);
        b.due(3, "run", 1);
        b.due(2, "setMode", 1, 0);
        b.due(5 * 1100 / 1000, "setHand", 1, 0);
    }

    private static void followsInHandAlone() {
        Bench b = new Bench("promise 10, follows");
        b.done("setTies", 0, 1, 0);
        b.due(0, "setHand", 0, 5000);
        b.due(0, "setSetpoint", 0, 77);
        b.due(77, "setpoint", 0);
        b.due(1, "run", 1);
        b.due(0, "setpoint", 0);
        b.due(2, "run", 1);
        b.due(1000, "setpoint", 0);
        b.due(1800, "measure", 0);
        b.due(0, "setMode", 0, 1);
        b.due(3, "run", 1);
        b.due(1000, "setpoint", 0);
        b.done("startRelay", 0, 1, 1);
        b.due(4, "run", 1);
        b.due(1000, "setpoint", 0);
        b.due(3, "setMode", 0, 0);
        b.done("setTies", 0, 0, 0);
        b.due(5, "run", 1);
        b.due(1000, "setpoint", 0);
    }

    private static void cascadeTakesTheOutputOfTheSameSample() {
        Bench b = new Bench("promise 16, cascade");
        b.done("setTies", 1, 0, 1);
        b.done("setTies", 2, 1, 1);
        b.due(0, "setMode", 1, 2);
        b.due(0, "setMode", 2, 2);
        b.due(0, "setHand", 0, 1000);
        b.due(1, "run", 1);
        b.due(1000, "setpoint", 1);
        b.due(1100, "output", 1);
        b.due(1100, "setpoint", 2);
        b.due(1210, "output", 2);
        b.due(1000, "setHand", 0, 0);
        b.due(1000, "setpoint", 1);
        b.refused(Bench.STATE, "setSetpoint", 1, 0);
        b.due(2, "run", 1);
        b.due(0, "setpoint", 1);
    }

    private static void cascadeNeedsAMaster() {
        Bench b = new Bench("promises 10 and 11, a master");
        b.refused(Bench.STATE, "setMode", 1, 2);
        b.done("setTies", 1, 1, 0);
        b.refused(Bench.STATE, "setMode", 1, 2);
        b.done("setTies", 2, 0, 1);
        b.refused(Bench.STATE, "setMode", 1, 2);
        b.due(0, "setMode", 2, 2);
        b.done("setTies", 1, 0, 1);
        b.done("setTies", 1, 0, 0);
        b.refused(Bench.STATE, "setMode", 1, 2);
        b.due(0, "setMode", 1, 1);
        b.refused(Bench.STATE, "setMode", 1, 2);
        b.refused(Bench.STATE, "setMode", 0, 2);
        b.refused(Bench.ARGUMENT, "setTies", 0, 0, 1);
        b.due(1, "mode", 1);
    }

    private static void masterCannotGoInCascade() {
        Bench b = new Bench("promise 10, the master in cascade");
        b.done("setTies", 1, 0, 1);
        b.due(0, "setMode", 1, 2);
        b.refused(Bench.STATE, "setTies", 1, 0, 0);
        b.refused(Bench.STATE, "setTies", 1, 1, 0);
        b.due(0, "setHand", 1 - 1, 400);
        b.done("setTies", 1, 1, 1);
        b.due(1, "run", 1);
        b.due(400, "setpoint", 1);
        b.due(2, "setMode", 1, 1);
        b.done("setTies", 1, 0, 0);
    }

    private static void starvedByEachOtherMode() {
        Bench b = new Bench("promise 20, starved");
        b.due(0, "setMode", 0, 1);
        b.due(0, "setMode", 1, 1);
        b.due(1, "run", 1);
        b.due(0, "wasStarved", 0);
        b.done("setTies", 1, 0, 1);
        b.due(0, "wasStarved", 0);
        b.due(2, "run", 1);
        b.due(1, "wasStarved", 0);
        b.due(0, "wasStarved", 1);
        b.due(0, "wasStarved", 2);
        b.due(1, "setMode", 1, 2);
        b.due(1, "wasStarved", 0);
        b.due(3, "run", 1);
        b.due(0, "wasStarved", 0);
        b.due(2, "setMode", 1, 0);
        b.due(4, "run", 1);
        b.due(1, "wasStarved", 0);
        b.due(0, "setMode", 1, 1);
        b.done("startRelay", 1, 1, 1);
        b.due(5, "run", 1);
        b.due(1, "wasStarved", 0);
        b.done("setTies", 1, 1, 0);
        b.due(6, "run", 1);
        b.due(0, "wasStarved", 0);
    }

    private static void starvedTakesTheSetpointAheadOfItsTurn() {
        Bench b = new Bench("promise 20, the higher setpoint");
        b.done("setTies", 1, 1, 1);
        b.due(0, "setMode", 0, 1);
        b.due(0, "setSetpoint", 1, 3000);
        b.due(1, "run", 1);
        b.due(3000, "output", 0);
        b.due(0, "setpoint", 1);
        b.due(2, "run", 1);
        b.due(0, "output", 0);
    }

    private static void starvedIsHeldAndSettled() {
        Bench b = new Bench("promise 20, held and settled");
        b.done("setTies", 1, 0, 1);
        b.done("setLimits", 0, 0, 2000);
        b.due(0, "setMode", 0, 1);
        b.due(0, "setSetpoint", 0, 500);
        b.due(0, "setSetpoint", 1, 3000);
        b.due(0, "setGains", 0, 1000, 100, 50);
        b.due(1, "run", 1);
        b.due(2000, "output", 0);
        b.due(2000000 - 500000, "integral", 0);
        b.due(400, "measure", 0);
        b.due(2, "run", 1);
        // Error 100 and rate -400.
        b.due(2000000 - 100000 + 20000, "integral", 0);
        b.due(0, "held", 0);
        b.due(0, "outputByIncrements", 0);
        b.due(3000, "setSetpoint", 1, -3000);
        b.due(3, "run", 1);
        b.due(0, "output", 0);
        b.done("setTies", 1, 0, 0);
        b.due(4, "run", 1);
        b.due(0, "wasStarved", 0);
    }

    private static void starvedInCascadeTakesItsSetpoint() {
        Bench b = new Bench("promise 20, starved in cascade");
        b.done("setTies", 1, 0, 1);
        b.done("setTies", 2, 0, 1);
        b.due(0, "setMode", 1, 2);
        b.due(0, "setHand", 0, 700);
        b.due(0, "setSetpoint", 2, 250);
        b.due(1, "run", 1);
        b.due(1, "wasStarved", 1);
        b.due(700, "setpoint", 1);
        b.due(250, "output", 1);
        b.due(250000 - 700000, "integral", 1);
        b.due(0, "wasStarved", 0);
        b.due(0, "setMode", 0, 1);
        b.due(2, "run", 1);
        b.due(0, "wasStarved", 0);
        b.due(1, "wasStarved", 1);
    }

    private static void handAndRelayAreNotStarved() {
        Bench b = new Bench("promise 20, hand and relay");
        b.done("setTies", 1, 0, 1);
        b.due(0, "setSetpoint", 1, 3000);
        b.due(1, "run", 1);
        b.due(0, "wasStarved", 0);
        b.due(0, "output", 0);
        b.due(0, "setMode", 0, 1);
        b.due(2, "run", 1);
        b.due(1, "wasStarved", 0);
        b.done("startRelay", 0, 10, 0);
        b.due(1, "wasStarved", 0);
        b.due(3, "run", 1);
        b.due(0, "wasStarved", 0);
        b.due(2990, "output", 0);
    }
}
