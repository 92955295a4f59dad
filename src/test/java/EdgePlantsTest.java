/** Promises 1 to 3, and what the terms say of plants: each boundary case by itself. */
final class EdgePlantsTest {
    private static final int[] NO_PLANT = {0, 0, 0, 0, 0};

    public static void main(String[] args) {
        promise1ThreeLoopsInHand();
        promise1WhatItBeginsWith();
        promise2NoSuchLoop();
        promise2RangeOfA1();
        promise2RangeOfA2();
        promise2RangeOfB();
        promise2RangeOfDeadTime();
        promise2EndsOfA1Act();
        promise2EndsOfA2Act();
        promise2EndsOfBAct();
        promise2EndsOfDeadTimeAct();
        promise2MeasuresStayAsTheyAre();
        promise2LoopAheadOfCoefficients();
        promise2RefusedLeavesThePlant();
        promise3NoSuchLoop();
        promise3RangeOfLoad();
        promise3EndsOfLoadAct();
        promise3AnswersTheLoadBefore();
        promise3LoopAheadOfLoad();
        termsAheadOfTheFirstSampleAllIsZero();
        termsRoundDownAlsoBelowZero();
        termsRoundedOnceAndTheLoadBehindThat();
        termsMeasureHeldAbove();
        termsMeasureHeldBelow();
        termsWhatIsHeldGoesOn();
        Bench.finish();
    }

    /** A loop 0 in hand with the two latest measures, no load and wide limits. */
    private static Bench at(String title, int before, int now) {
        Bench b = new Bench(title);
        b.done("setLimits", 0, -1000000, 1000000);
        b.done("setPlant", 0, 0, 0, 0, 0);
        b.ask("setLoad", 0, before);
        b.due(1, "run", 1);
        b.ask("setLoad", 0, now);
        b.due(2, "run", 1);
        b.ask("setLoad", 0, 0);
        b.due(now, "measure", 0);
        return b;
    }

    private static void next(Bench b, long... measures) {
        for (long due : measures) {
            b.ask("run", 1);
            b.due(due, "measure", 0);
        }
    }

    private static void promise1ThreeLoopsInHand() {
        Bench b = new Bench("promise 1, three loops in hand");
        b.refused(Bench.INDEX, "mode", -1);
        b.due(0, "mode", 0);
        b.due(0, "mode", 1);
        b.due(0, "mode", 2);
        b.refused(Bench.INDEX, "mode", 3);
        for (int loop = 0; loop < 3; loop++) {
            b.due(0, "setHand", loop, 5);
        }
    }

    private static void promise1WhatItBeginsWith() {
        Bench plant = new Bench("promise 1, the plant at first");
        plant.due(0, "setHand", 0, 100000);
        next(plant, 20000, 36000, 48800, 59040);
        for (int loop = 0; loop < 3; loop++) {
            Bench b = new Bench("promise 1, the settings at first of loop " + loop);
            b.due(0, "setLoad", loop, 0);
            b.due(0, "setGuard", loop, 0, 0);
            b.due(0, "setSetpoint", loop, 0);
            b.due(0, "setHand", loop, 0);
            b.due(1000, "gain", loop, 0);
            b.due(100, "gain", loop, 1);
            b.due(0, "gain", loop, 2);
            b.due(0, "integral", loop);
            b.due(1, "addPoint", loop, 0, 0, 0, 0);
            b.due(1, "setGains", loop, 1000, 100, 0);
            b.refused(Bench.STATE, "setMode", loop, 2);
        }
        int[][] limits = {{-1, 0}, {0, 0}, {1, 1}, {99999, 99999}, {100000, 100000}, {100001, 100000}};
        for (int[] one : limits) {
            Bench b = new Bench("promise 1, the limits at first, by hand at " + one[0]);
            b.due(0, "setHand", 2, one[0]);
            b.due(1, "run", 1);
            b.due(one[1], "output", 2);
        }
    }

    private static void promise2NoSuchLoop() {
        Edge.loops("promise 2, loops", Edge.FRESH, "setPlant", 0, 1, 1, 1, 1);
        Edge.loops("promise 2, loops", Edge.inMode(1, 2), "setPlant", 0, 1, 1, 1, 1);
    }

    private static void promise2RangeOfA1() {
        Edge.range("promise 2, a1 is -2000 to 2000", Edge.inMode(0, 1), "setPlant", NO_PLANT, 1, -2000, 2000);
    }

    private static void promise2RangeOfA2() {
        Edge.range("promise 2, a2 is -1000 to 1000", Edge.inMode(0, 1), "setPlant", NO_PLANT, 2, -1000, 1000);
    }

    private static void promise2RangeOfB() {
        Edge.range("promise 2, b is -2000 to 2000", Edge.inMode(0, 1), "setPlant", NO_PLANT, 3, -2000, 2000);
    }

    private static void promise2RangeOfDeadTime() {
        Edge.range("promise 2, deadTime is 0 to 10", Edge.inMode(0, 1), "setPlant", NO_PLANT, 4, 0, 10);
    }

    private static void promise2EndsOfA1Act() {
        long[][] due = {{2000, 14}, {1999, 13}, {-1999, -14}, {-2000, -14}};
        for (long[] one : due) {
            Bench b = at("promise 2, a1 " + one[0], 3, 7);
            b.done("setPlant", 0, (int) one[0], 0, 0, 0);
            next(b, one[1]);
        }
        Bench b = at("promise 2, a1 2000 in thousandths", 0, 1000);
        b.done("setPlant", 0, 1999, 0, 0, 0);
        next(b, 1999);
    }

    private static void promise2EndsOfA2Act() {
        long[][] due = {{1000, 3000}, {999, 2997}, {-999, -2997}, {-1000, -3000}};
        for (long[] one : due) {
            Bench b = at("promise 2, a2 " + one[0], 3000, 7000);
            b.done("setPlant", 0, 0, (int) one[0], 0, 0);
            next(b, one[1]);
        }
    }

    private static void promise2EndsOfBAct() {
        long[][] due = {{2000, 18000}, {1999, 17991}, {-1999, -17991}, {-2000, -18000}};
        for (long[] one : due) {
            Bench b = at("promise 2, b " + one[0], 3000, 7000);
            b.due(0, "setHand", 0, 9000);
            b.done("setPlant", 0, 0, 0, (int) one[0], 0);
            next(b, one[1]);
        }
    }

    /** One output of 5000, and 0 behind it: it comes out at the sample that the dead time says, and at no other. */
    private static void promise2EndsOfDeadTimeAct() {
        for (int deadTime : new int[] {0, 1, 9, 10}) {
            Bench b = new Bench("promise 2, dead time " + deadTime);
            b.done("setPlant", 0, 0, 0, 1000, deadTime);
            b.due(0, "setHand", 0, 5000);
            next(b, deadTime == 0 ? 5000 : 0);
            b.due(5000, "setHand", 0, 0);
            for (int n = 1; n <= 25; n++) {
                next(b, n == deadTime ? 5000 : 0);
            }
        }
    }

    private static void promise2MeasuresStayAsTheyAre() {
        Bench b = at("promise 2, its measures stay", 300, 700);
        b.done("setPlant", 0, 2000, 1000, 2000, 10);
        b.due(700, "measure", 0);
        b.done("setPlant", 0, 0, 1000, 0, 0);
        b.due(700, "measure", 0);
        next(b, 300, 700);
    }

    private static void promise2LoopAheadOfCoefficients() {
        Edge.noSuchLoop("promise 2, the loop first", Edge.FRESH, "setPlant", 0, 2001, -1001, 2001, 11);
        for (int loop = 0; loop < 3; loop++) {
            Edge.refused("promise 2, all out of range", Edge.inMode(loop, 1), Bench.ARGUMENT, "setPlant", loop, 2001,
                -1001, 2001, 11);
        }
    }

    private static void promise2RefusedLeavesThePlant() {
        Edge.refused("promise 2, a1 refused", Edge.inMode(2, 3), Bench.ARGUMENT, "setPlant", 2, 2001, 1, 1, 0);
        Edge.refused("promise 2, a2 refused", Edge.inMode(2, 3), Bench.ARGUMENT, "setPlant", 2, 1, 1001, 1, 0);
        Edge.refused("promise 2, b refused", Edge.inMode(2, 3), Bench.ARGUMENT, "setPlant", 2, 1, 1, 2001, 0);
        Edge.refused("promise 2, deadTime refused", Edge.inMode(2, 3), Bench.ARGUMENT, "setPlant", 2, 1, 1, 1, 11);
    }

    private static void promise3NoSuchLoop() {
        Edge.loops("promise 3, loops", Edge.FRESH, "setLoad", 0, 1);
        Edge.loops("promise 3, loops", Edge.inMode(1, 2), "setLoad", 0, 1);
    }

    private static void promise3RangeOfLoad() {
        for (int loop = 0; loop < 3; loop++) {
            Edge.range("promise 3, load is -10000 to 10000", Edge.inMode(loop, 1), "setLoad", new int[] {loop, 0}, 1,
                -10000, 10000);
        }
    }

    private static void promise3EndsOfLoadAct() {
        for (int load : new int[] {10000, 9999, -9999, -10000}) {
            Bench b = new Bench("promise 3, load " + load);
            b.done("setPlant", 0, 1000, 0, 0, 0);
            b.due(0, "setLoad", 0, load);
            b.due(0, "measure", 0);
            next(b, load, 2L * load, 3L * load);
        }
    }

    private static void promise3AnswersTheLoadBefore() {
        Bench b = new Bench("promise 3, the load before");
        b.due(0, "setLoad", 2, 10000);
        b.refused(Bench.ARGUMENT, "setLoad", 2, 10001);
        b.due(10000, "setLoad", 2, -10000);
        b.refused(Bench.ARGUMENT, "setLoad", 2, -10001);
        b.due(-10000, "setLoad", 2, 0);
        b.due(0, "setLoad", 2, 0);
        b.due(0, "setLoad", 1, 0);
    }

    private static void promise3LoopAheadOfLoad() {
        Edge.noSuchLoop("promise 3, the loop first", Edge.FRESH, "setLoad", 0, 10001);
        Edge.noSuchLoop("promise 3, the loop first", Edge.FRESH, "setLoad", 0, -10001);
    }

    private static void termsAheadOfTheFirstSampleAllIsZero() {
        Bench outputs = new Bench("terms, outputs ahead of the first sample");
        outputs.done("setPlant", 0, 0, 0, 1000, 10);
        outputs.due(0, "setHand", 0, 5000);
        next(outputs, 0, 0, 0, 0, 0, 0, 0, 0, 0, 0, 5000, 5000);
        Bench measures = new Bench("terms, measures ahead of the first sample");
        measures.done("setPlant", 0, 0, 1000, 0, 0);
        measures.due(0, "setLoad", 0, 100);
        next(measures, 100, 100, 200, 200, 300);
        Bench rate = new Bench("terms, the rate at the first sample");
        rate.due(0, "setGains", 0, 0, 0, 50000);
        rate.done("setLimits", 0, -1000000, 1000000);
        rate.due(0, "setMode", 0, 1);
        rate.due(1, "run", 1);
        rate.due(0, "output", 0);
    }

    private static void termsRoundDownAlsoBelowZero() {
        long[][] due = {{-1, -1}, {-999, -1}, {-1000, -1}, {-1001, -2}, {0, 0}, {999, 0}, {1000, 1}, {1999, 1}};
        for (long[] one : due) {
            Bench b = new Bench("terms, floor(" + one[0] + " / 1000)");
            b.done("setLimits", 0, -1000000, 1000000);
            b.done("setPlant", 0, 0, 0, 1, 0);
            b.due(0, "setHand", 0, (int) one[0]);
            next(b, one[1]);
        }
    }

    private static void termsRoundedOnceAndTheLoadBehindThat() {
        Bench b = at("terms, the sum is rounded once", -1, -1);
        b.done("setPlant", 0, 500, 500, 0, 0);
        next(b, -1);
        Bench c = at("terms, the load is added behind the rounding", 1, 1);
        c.done("setPlant", 0, 400, 0, 0, 0);
        c.due(0, "setLoad", 0, -1);
        next(c, -1);
    }

    private static void termsMeasureHeldAbove() {
        long[][] due = {{0, 1000000, 1000000}, {1, 1000000, 1000000}, {-1, 1000000, 999999}, {10000, 990000, 1000000},
            {10000, 989999, 999999}, {10000, 990001, 1000000}};
        for (long[] one : due) {
            held("terms, held above with load " + one[0], 1000, one);
        }
        held("terms, held above from far", 2000, new long[] {10000, 1000000, 1000000});
        held("terms, the load counts ahead of the holding", 1001, new long[] {-1000, 1000000, 1000000});
        held("terms, the load counts ahead of the holding", 1001, new long[] {-1001, 1000000, 999999});
    }

    private static void termsMeasureHeldBelow() {
        long[][] due = {{0, 1000000, -1000000}, {-1, 1000000, -1000000}, {1, 1000000, -999999},
            {-10000, 990000, -1000000}, {-10000, 989999, -999999}, {-10000, 990001, -1000000}};
        for (long[] one : due) {
            held("terms, held below with load " + one[0], -1000, one);
        }
        held("terms, held below from far", -2000, new long[] {-10000, 1000000, -1000000});
        held("terms, the load counts ahead of the holding", -1001, new long[] {1000, 1000000, -1000000});
        held("terms, the load counts ahead of the holding", -1001, new long[] {1001, 1000000, -999999});
    }

    /** The load, the output, and the measure that is due behind one sample. */
    private static void held(String title, int b1, long[] due) {
        Bench b = new Bench(title);
        b.done("setLimits", 0, -1000000, 1000000);
        b.done("setPlant", 0, 0, 0, b1, 0);
        b.due(0, "setLoad", 0, (int) due[0]);
        b.due(0, "setHand", 0, (int) due[1]);
        next(b, due[2]);
    }

    private static void termsWhatIsHeldGoesOn() {
        Bench b = new Bench("terms, the measure that is held goes on");
        b.done("setLimits", 0, -1000000, 1000000);
        b.done("setPlant", 0, 2000, 0, 2000, 0);
        b.due(0, "setHand", 0, 1000000);
        next(b, 1000000, 1000000);
        b.done("setPlant", 0, 1000, 0, 0, 0);
        b.due(0, "setLoad", 0, -1);
        next(b, 999999, 999998);
    }
}
