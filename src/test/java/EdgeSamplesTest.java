import java.util.function.Consumer;

/** Promises 12 to 21: each boundary case of the samples and signals by itself. */
final class EdgeSamplesTest {
    public static void main(String[] args) {
        promise12Range();
        promise12RefusedLetsNoSampleGoBy();
        promise12AnswersHowManyHaveGoneBy();
        promise12TheMostAtOnceAreAsManySingleOnes();
        signalsOfNoSuchLoop();
        promise13AheadOfTheFirstSample();
        promise13Ends();
        promise14AheadOfTheFirstSample();
        promise14Ends();
        promise15AheadOfTheFirstAutomaticSample();
        promise15RoundedDown();
        promise15WhatWasWantedThoughItIsHeld();
        promise16Ends();
        promise17InMillionths();
        promise18NoSuchGain();
        promise18AsItIsNow();
        promise18FirstException();
        promise19EachMode();
        promise20AheadOfTheFirstSample();
        promise20AtTheLatestSample();
        promise21AtAndBeyondTheLimits();
        promise21WhatIsWantedIsRoundedAheadOfThat();
        promise21OnlyAutomaticAndCascade();
        promise21GuardsDoNotMatter();
        Bench.finish();
    }

    private static void promise12Range() {
        int[] a = {1};
        Edge.range("promise 12, samples is 1 to 200", Edge.FRESH, "run", a, 0, 1, 200);
        for (int mode = 0; mode <= 3; mode++) {
            Edge.range("promise 12, samples is 1 to 200", Edge.inMode(1, mode), "run", a, 0, 1, 200);
        }
    }

    private static void promise12RefusedLetsNoSampleGoBy() {
        Bench b = new Bench("promise 12, no sample by a call that is refused");
        b.due(0, "setHand", 0, 1000);
        b.refused(Bench.ARGUMENT, "run", 201);
        b.refused(Bench.ARGUMENT, "run", 0);
        b.due(0, "output", 0);
        b.due(0, "measure", 0);
        b.due(1, "run", 1);
        b.refused(Bench.ARGUMENT, "run", -1);
        b.due(200, "measure", 0);
        b.due(201, "run", 200);
    }

    private static void promise12AnswersHowManyHaveGoneBy() {
        Bench b = new Bench("promise 12, as many as the calls allow");
        for (int n = 1; n <= 512; n++) {
            b.due(200 * n, "run", 200);
        }
    }

    private static void promise12TheMostAtOnceAreAsManySingleOnes() {
        for (int mode = 0; mode <= 3; mode++) {
            Bench many = new Bench("promise 12, 200 at once");
            Edge.inMode(1, mode).accept(many);
            many.due(210, "run", 200);
            Bench single = new Bench("promise 12, 200 times 1");
            Edge.inMode(1, mode).accept(single);
            for (int n = 1; n <= 200; n++) {
                single.due(10 + n, "run", 1);
            }
            Bench.expect("promise 12, mode " + mode, many.signals(), single.signals());
        }
    }

    private static void signalsOfNoSuchLoop() {
        String[][] signals = {{"measure", "13"}, {"output", "14"}, {"outputByIncrements", "15"}, {"setpoint", "16"},
            {"integral", "17"}, {"mode", "19"}, {"wasStarved", "20"}, {"held", "21"}};
        for (String[] signal : signals) {
            String sentence = "promise " + signal[1] + ", loops";
            Edge.loops(sentence, Edge.FRESH, signal[0], 0);
            Edge.loops(sentence, Edge.inMode(2, 3), signal[0], 0);
        }
        Edge.loops("promise 18, loops", Edge.FRESH, "gain", 0, 0);
        Edge.loops("promise 18, loops", Edge.inMode(2, 3), "gain", 0, 2);
    }

    private static void promise13AheadOfTheFirstSample() {
        Bench b = new Bench("promise 13, ahead of the first sample");
        b.due(0, "setLoad", 0, 10000);
        b.due(0, "setHand", 0, 10000);
        b.done("setPlant", 0, 0, 0, 2000, 0);
        b.due(0, "measure", 0);
        b.due(1, "run", 1);
        // That of the sample to come, not that of the latest one.
        b.due(30000, "measure", 0);
    }

    private static void promise13Ends() {
        for (int b1 : new int[] {2000, -2000}) {
            Bench b = new Bench("promise 13, the greatest and the least, by " + b1);
            b.done("setLimits", 2, -1000000, 1000000);
            b.done("setPlant", 2, 2000, 1000, b1, 0);
            b.due(0, "setHand", 2, 1000000);
            b.due(1, "run", 1);
            b.due(b1 * 500, "measure", 2);
            b.due(201, "run", 200);
            b.due(b1 * 500, "measure", 2);
        }
    }

    private static void promise14AheadOfTheFirstSample() {
        Bench b = new Bench("promise 14, 0 ahead of the first sample");
        b.due(0, "setHand", 0, 700);
        b.done("setLimits", 0, 300, 900);
        b.due(0, "output", 0);
        b.due(0, "setMode", 1, 1);
        b.due(0, "setSetpoint", 1, 700);
        b.due(0, "output", 1);
        b.due(1, "run", 1);
        b.due(700, "output", 0);
        b.due(700, "setHand", 0, 800);
        b.due(700, "output", 0);
    }

    private static void promise14Ends() {
        Consumer<Bench> wide = b -> {
            b.done("setLimits", 0, -1000000, 1000000);
            b.done("setPlant", 0, 0, 0, 0, 0);
            b.due(0, "setGains", 0, 20000, 0, 0);
            b.due(0, "setMode", 0, 1);
        };
        int[][] due = {{50000, 1000000}, {49999, 999980}, {50001, 1000000}, {1000000, 1000000}, {-50000, -1000000},
            {-49999, -999980}, {-50001, -1000000}, {-1000000, -1000000}};
        for (int[] one : due) {
            Bench b = new Bench("promise 14, the error " + one[0]);
            wide.accept(b);
            b.due(0, "setSetpoint", 0, one[0]);
            b.due(1, "run", 1);
            b.due(one[1], "output", 0);
        }
    }

    private static void promise15AheadOfTheFirstAutomaticSample() {
        Bench b = new Bench("promise 15, 0 ahead of the first automatic sample");
        b.due(0, "setHand", 0, 700);
        b.due(0, "setSetpoint", 0, 500);
        b.due(1, "run", 1);
        b.due(0, "outputByIncrements", 0);
        // Neither a starved sample nor one of a relay is an automatic one.
        b.done("setTies", 1, 0, 1);
        b.due(0, "setMode", 0, 1);
        b.due(2, "run", 1);
        b.due(1, "wasStarved", 0);
        b.due(0, "outputByIncrements", 0);
        b.done("startRelay", 0, 50, 0);
        b.due(3, "run", 1);
        b.due(0, "outputByIncrements", 0);
        b.due(3, "setMode", 0, 0);
        b.done("setTies", 1, 0, 0);
        b.due(0, "setMode", 0, 1);
        b.due(0, "outputByIncrements", 0);
        b.due(4, "run", 1);
        b.answerDue(b.ask("output", 0), "outputByIncrements", 0);
        Bench.expect("promise 15, the output is above 0", b.ask("output", 0).equals("0") ? "no" : "yes", "yes");
    }

    private static void promise15RoundedDown() {
        int[][] due = {{-1001, -2}, {-1000, -1}, {-999, -1}, {-1, -1}, {0, 0}, {1, 0}, {999, 0}, {1000, 1}};
        for (int[] one : due) {
            Bench b = new Bench("promise 15, floor(" + one[0] + " / 1000)");
            b.due(0, "setGains", 0, 1, 0, 0);
            Edge.still(b, 0);
            b.due(0, "setSetpoint", 0, one[0]);
            b.due(1, "run", 1);
            b.due(one[1], "outputByIncrements", 0);
            b.due(one[1], "output", 0);
        }
    }

    private static void promise15WhatWasWantedThoughItIsHeld() {
        Bench b = new Bench("promise 15, beyond the limits");
        Edge.still(b, 0);
        b.done("setLimits", 0, 10, 20);
        b.due(0, "setSetpoint", 0, 1000);
        b.due(1, "run", 1);
        b.due(20, "output", 0);
        b.due(1100, "outputByIncrements", 0);
        b.due(1000, "setSetpoint", 0, -1000);
        b.due(2, "run", 1);
        b.due(10, "output", 0);
        b.due(-1000, "outputByIncrements", 0);
    }

    private static void promise16Ends() {
        for (int loop = 0; loop < 3; loop++) {
            Bench b = new Bench("promise 16, the greatest and the least of loop " + loop);
            b.due(0, "setpoint", loop);
            b.due(0, "setSetpoint", loop, 1000000);
            b.due(1000000, "setpoint", loop);
            b.refused(Bench.ARGUMENT, "setSetpoint", loop, 1000001);
            b.due(1000000, "setpoint", loop);
            b.due(1000000, "setSetpoint", loop, -1000000);
            b.due(-1000000, "setpoint", loop);
            b.refused(Bench.ARGUMENT, "setSetpoint", loop, -1000001);
            b.due(-1000000, "setpoint", loop);
            b.due(0, "setpoint", (loop + 1) % 3);
        }
    }

    private static void promise17InMillionths() {
        Bench b = new Bench("promise 17, the least steps");
        b.due(0, "setGains", 1, 0, 1, 0);
        Edge.still(b, 1);
        b.due(0, "setSetpoint", 1, 1);
        b.due(1, "run", 1);
        b.due(1, "integral", 1);
        b.due(1, "setSetpoint", 1, -1);
        b.due(3, "run", 2);
        b.due(-1, "integral", 1);
        b.due(-1, "output", 1);
        b.due(0, "integral", 0);
        Bench c = new Bench("promise 17, the greatest steps");
        c.due(0, "setGains", 1, 0, 5000, 0);
        Edge.still(c, 1);
        c.due(0, "setSetpoint", 1, 1000000);
        c.due(1, "run", 1);
        c.due(5000000000L, "integral", 1);
        c.due(1000000, "setSetpoint", 1, -1000000);
        c.due(3, "run", 2);
        c.due(-5000000000L, "integral", 1);
    }

    private static void promise18NoSuchGain() {
        for (int loop = 0; loop < 3; loop++) {
            for (int which = 0; which <= 2; which++) {
                Edge.taken("promise 18, which is 0 to 2", Edge.FRESH, "gain", loop, which);
            }
            for (int which : new int[] {-1, 3, Integer.MIN_VALUE, Integer.MAX_VALUE}) {
                Edge.refused("promise 18, no such gain", Edge.FRESH, Bench.INDEX, "gain", loop, which);
                Edge.refused("promise 18, no such gain", Edge.inMode(loop, 3), Bench.INDEX, "gain", loop, which);
            }
        }
    }

    private static void promise18AsItIsNow() {
        Bench b = new Bench("promise 18, p, i and d");
        b.due(0, "setGains", 2, -20000, 5000, -50000);
        b.due(-20000, "gain", 2, 0);
        b.due(5000, "gain", 2, 1);
        b.due(-50000, "gain", 2, 2);
        b.due(1, "addPoint", 2, 0, 1, 2, 3);
        b.due(-20000, "gain", 2, 0);
        b.due(1000, "gain", 0, 0);
        b.due(100, "gain", 1, 1);
        b.due(0, "gain", 1, 2);
    }

    private static void promise18FirstException() {
        Edge.noSuchLoop("promise 18, neither loop nor gain", Edge.FRESH, "gain", 0, 3);
        Edge.noSuchLoop("promise 18, neither loop nor gain", Edge.FRESH, "gain", 0, -1);
    }

    private static void promise19EachMode() {
        for (int loop = 0; loop < 3; loop++) {
            for (int mode = 0; mode <= 3; mode++) {
                if (loop != 0 || mode != 2) {
                    Bench b = new Bench("promise 19, loop " + loop);
                    Edge.inMode(loop, mode).accept(b);
                    b.due(mode, "mode", loop);
                    b.due(loop == 0 ? 2 : 1, "mode", loop == 0 ? 1 : 0);
                }
            }
        }
    }

    private static void promise20AheadOfTheFirstSample() {
        Bench b = new Bench("promise 20, ahead of the first sample");
        b.done("setTies", 1, 0, 1);
        b.due(0, "setMode", 0, 1);
        b.due(0, "wasStarved", 0);
        b.due(1, "run", 1);
        b.due(1, "wasStarved", 0);
    }

    private static void promise20AtTheLatestSample() {
        Bench b = new Bench("promise 20, at the latest sample");
        b.done("setTies", 1, 0, 1);
        b.due(0, "setMode", 0, 1);
        b.due(1, "run", 1);
        // No call but a sample changes it.
        b.done("setTies", 1, 0, 0);
        b.due(1, "setMode", 0, 0);
        b.due(1, "wasStarved", 0);
        b.refused(Bench.ARGUMENT, "run", 0);
        b.due(1, "wasStarved", 0);
        b.due(2, "run", 1);
        b.due(0, "wasStarved", 0);
        b.done("setTies", 1, 0, 1);
        b.due(0, "setMode", 0, 1);
        b.due(0, "wasStarved", 0);
        b.due(3, "run", 1);
        b.due(1, "wasStarved", 0);
        // Of many samples the latest one counts.
        b.due(0, "setMode", 1, 2);
        b.due(203, "run", 200);
        b.due(0, "wasStarved", 0);
    }

    private static void promise21AtAndBeyondTheLimits() {
        int[][] due = {{-6, 1}, {-5, 0}, {-4, 0}, {0, 0}, {6, 0}, {7, 0}, {8, 1}};
        for (int[] one : due) {
            for (int loop = 0; loop < 3; loop++) {
                Bench b = new Bench("promise 21, what is wanted is " + one[0]);
                b.due(0, "setGains", loop, 1000, 0, 0);
                Edge.still(b, loop);
                b.done("setLimits", loop, -5, 7);
                b.due(0, "setSetpoint", loop, one[0]);
                b.due(0, "held", loop);
                b.due(1, "run", 1);
                b.due(one[1], "held", loop);
                b.due(200, "run", 199);
                b.due(200 * one[1], "held", loop);
                b.due(0, "held", (loop + 1) % 3);
            }
        }
    }

    private static void promise21WhatIsWantedIsRoundedAheadOfThat() {
        int[][] due = {{-1, 1}, {0, 0}, {7000, 0}, {7999, 0}, {8000, 1}};
        for (int[] one : due) {
            Bench b = new Bench("promise 21, the sum is " + one[0]);
            b.due(0, "setGains", 0, 1, 0, 0);
            Edge.still(b, 0);
            b.done("setLimits", 0, 0, 7);
            b.due(0, "setSetpoint", 0, one[0]);
            b.due(1, "run", 1);
            b.due(one[1], "held", 0);
        }
    }

    private static void promise21OnlyAutomaticAndCascade() {
        for (int mode = 0; mode <= 3; mode++) {
            Bench b = new Bench("promise 21, mode " + mode);
            b.done("setTies", 1, 0, 1);
            b.done("setLimits", 1, -9, -5);
            b.due(0, "setHand", 1, 50);
            b.due(0, "setMode", 1, mode == 3 ? 1 : mode);
            if (mode == 3) {
                b.done("startRelay", 1, 500, 0);
            }
            b.due(3, "run", 3);
            b.due(mode == 1 || mode == 2 ? 3 : 0, "held", 1);
        }
        Bench c = new Bench("promise 21, starved ones not counted");
        c.done("setPlant", 0, 1000, 0, 0, 0);
        c.done("setTies", 1, 0, 1);
        c.done("setLimits", 0, -9, -5);
        c.due(0, "setMode", 0, 1);
        c.due(3, "run", 3);
        c.due(-5, "output", 0);
        c.due(0, "held", 0);
        c.done("setTies", 1, 0, 0);
        // Settled at -5, which an error of 0 leaves as it is: at the limit.
        c.due(4, "run", 1);
        c.due(0, "held", 0);
        c.done("setLimits", 0, -9, -6);
        c.due(5, "run", 1);
        c.due(1, "held", 0);
    }

    private static void promise21GuardsDoNotMatter() {
        for (int guard = 0; guard <= 2; guard++) {
            Bench b = new Bench("promise 21, guard " + guard);
            Edge.still(b, 0);
            b.done("setLimits", 0, 0, 10);
            b.due(0, "setGuard", 0, guard, 0);
            b.due(0, "setSetpoint", 0, 11);
            b.due(2, "run", 2);
            b.due(2, "held", 0);
            b.due(11, "setSetpoint", 0, -11);
            b.due(3, "run", 1);
            b.due(3, "held", 0);
        }
    }
}
