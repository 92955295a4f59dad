/** Promises 22 to 27, and what the terms say of relay experiments: each boundary case by itself. */
final class EdgeExperimentsTest {
    private static final String[] TOLD = {"period", "swing", "ultimateGain"};

    public static void main(String[] args) {
        startRelay();
        relay();
        experiment();
        told();
        proposed();
        Bench.finish();
    }

    private static void startRelay() {
        promise22NoSuchLoop();
        promise22Ranges();
        promise22InAutomaticAlone();
        promise22FirstException();
        promise22EndsOfHeightAct();
        promise22EndsOfBandAct();
        promise22CenterAheadOfTheFirstSample();
        promise22ForgetsWhatTheOneBeforeTold();
    }

    private static void relay() {
        termsBandFromUp();
        termsBandFromDown();
        termsUpAtFirstIsNoRise();
        termsOutputAtTheLimits();
        termsDoneAtTheSoonest();
        termsDoneAtEachOfTheLastSamples();
        termsFailedAtTheLastSample();
        termsWholeTimeInTwoCalls();
        termsSettledWhenItIsDone();
        termsSettledWhenItHasFailed();
        termsOutputOfTheLastSampleIsTheRelays();
        termsStarvedFromTheNextSampleOn();
    }

    private static void experiment() {
        promise23NoSuchLoop();
        promise23None();
        promise23GoesOn();
        promise23GivenUp();
        promise23DoneOrFailedStaysBehindHand();
    }

    private static void told() {
        promises24To26NoSuchLoop();
        promises24To27NotDone();
        promise24RoundedDown();
        promise24LeastAndGreatest();
        promise25ThirdIncludedFourthNot();
        promise25LeastAndGreatest();
        promise26NoSwing();
        promise26RoundedDown();
        promise26LeastAndGreatest();
    }

    private static void proposed() {
        promise27NoSuchLoopOrGain();
        promise27RangeOfRule();
        promise27NoSwing();
        promise27FirstException();
        promise27HeldAtTheMostByRule0();
        promise27HeldAtTheMostByRule1();
        promise27RoundedDownByTheLeastGains();
        promise27ByTheLongestPeriod();
    }

    private static void promise22NoSuchLoop() {
        for (int loop = 0; loop < 3; loop++) {
            Edge.taken("promise 22, loops", Edge.inMode(loop, 1), "startRelay", loop, 1, 0);
        }
        Edge.noSuchLoop("promise 22, loops", Edge.inMode(0, 1), "startRelay", 0, 1, 0);
    }

    private static void promise22Ranges() {
        for (int loop = 0; loop < 3; loop++) {
            int[] a = {loop, 5, 5};
            Edge.range("promise 22, height is 1 to 100000", Edge.inMode(loop, 1), "startRelay", a, 1, 1, 100000);
            Edge.range("promise 22, band is 0 to 100000", Edge.inMode(loop, 1), "startRelay", a, 2, 0, 100000);
        }
    }

    private static void promise22InAutomaticAlone() {
        for (int loop = 0; loop < 3; loop++) {
            Edge.refused("promise 22, a new object", Edge.FRESH, Bench.STATE, "startRelay", loop, 5, 5);
            for (int mode : new int[] {0, 2, 3}) {
                if (loop != 0 || mode != 2) {
                    Edge.refused("promise 22, mode " + mode, Edge.inMode(loop, mode), Bench.STATE, "startRelay", loop,
                        5, 5);
                }
            }
        }
    }

    private static void promise22FirstException() {
        Edge.noSuchLoop("promise 22, the loop first", Edge.FRESH, "startRelay", 0, 0, -1);
        int[][] wrong = {{0, 5}, {100001, 5}, {5, -1}, {5, 100001}, {0, -1}};
        for (int[] a : wrong) {
            for (int mode : new int[] {0, 2, 3}) {
                Edge.refused("promise 22, the range ahead of the mode", Edge.inMode(1, mode), Bench.ARGUMENT,
                    "startRelay", 1, a[0], a[1]);
            }
        }
    }

    private static void promise22EndsOfHeightAct() {
        for (int height : new int[] {1, 2, 99999, 100000}) {
            Bench b = Steering.begun("promise 22, height " + height, height);
            Steering.steer(b, Steering.UP, 0);
            b.due(height, "output", 0);
            Steering.steer(b, Steering.DOWN, 0);
            b.due(-height, "output", 0);
        }
    }

    private static void promise22EndsOfBandAct() {
        for (int band : new int[] {0, 1, 99999, 100000}) {
            Bench b = banded("promise 22, band " + band, band);
            output(b, -band, 10);
            output(b, -band - 1, -10);
            output(b, band, -10);
            output(b, band + 1, 10);
        }
    }

    /** An experiment of loop 0 around 0 by 10, whose errors are the setpoints. */
    private static Bench banded(String title, int band) {
        Bench b = new Bench(title);
        Edge.still(b, 0);
        b.done("startRelay", 0, 10, band);
        return b;
    }

    private static void output(Bench b, int error, int due) {
        b.ask("setSetpoint", 0, error);
        b.ask("run", 1);
        b.due(due, "output", 0);
    }

    private static void promise22CenterAheadOfTheFirstSample() {
        Bench b = new Bench("promise 22, 0 ahead of the first sample");
        b.due(0, "setHand", 0, 5000);
        Edge.still(b, 0);
        b.done("startRelay", 0, 10, 0);
        output(b, 1, 10);
        output(b, -1, -10);
    }

    private static void promise22ForgetsWhatTheOneBeforeTold() {
        Bench b = Steering.told("promise 22, it is forgotten", 100, 200);
        b.due(1273, "ultimateGain", 0);
        b.refused(Bench.ARGUMENT, "startRelay", 0, 100, 100001);
        b.refused(Bench.STATE, "startRelay", 1, 100, 0);
        // Not by a call that is refused.
        b.due(2, "experiment", 0);
        b.due(2, "period", 0);
        b.due(200, "swing", 0);
        b.due(1273, "ultimateGain", 0);
        b.due(763, "proposed", 0, 0, 0);
        b.done("startRelay", 0, 7, 0);
        b.due(1, "experiment", 0);
        notTold(b, 0);
        b.due(3, "setMode", 0, 0);
        notTold(b, 0);
        Bench c = Steering.told("promise 22, rises are counted anew", 100, 200);
        c.done("startRelay", 0, 7, 0);
        Steering.rise(c, 3);
        c.due(1, "experiment", 0);
        Steering.rise(c, 1);
        c.due(2, "experiment", 0);
        c.due(0, "swing", 0);
    }

    private static void notTold(Bench b, int loop) {
        for (String call : TOLD) {
            b.refused(Bench.STATE, call, loop);
        }
        for (int rule = 0; rule <= 1; rule++) {
            for (int which = 0; which <= 2; which++) {
                b.refused(Bench.STATE, "proposed", loop, rule, which);
            }
        }
    }

    private static void termsBandFromUp() {
        int[][] due = {{0, 10}, {1, 10}, {20, 10}, {21, 10}, {-1, 10}, {-19, 10}, {-20, 10}, {-21, -10},
            {-1000000, -10}};
        for (int[] one : due) {
            output(banded("terms, the band from up, the error " + one[0], 20), one[0], one[1]);
        }
    }

    private static void termsBandFromDown() {
        int[][] due = {{0, -10}, {1, -10}, {19, -10}, {20, -10}, {21, 10}, {1000000, 10}, {-20, -10}, {-21, -10}};
        for (int[] one : due) {
            Bench b = banded("terms, the band from down, the error " + one[0], 20);
            output(b, -21, -10);
            output(b, one[0], one[1]);
        }
    }

    private static void termsUpAtFirstIsNoRise() {
        Bench b = Steering.begun("terms, up at first", 10);
        Steering.steer(b, Steering.UP, 0);
        Steering.rise(b, 3);
        b.due(1, "experiment", 0);
        Steering.rise(b, 1);
        b.due(2, "experiment", 0);
        // Up at first in each experiment, also behind one that was given up when it was down.
        Bench c = Steering.begun("terms, up at first again", 10);
        Steering.steer(c, Steering.DOWN, 0);
        c.due(3, "setMode", 0, 0);
        c.due(0, "setMode", 0, 1);
        c.done("startRelay", 0, 10, 0);
        output(c, 0, 0);
        Steering.rise(c, 3);
        c.due(1, "experiment", 0);
        Steering.rise(c, 1);
        c.due(2, "experiment", 0);
    }

    private static void termsOutputAtTheLimits() {
        int[][] limits = {{-9, 9}, {-10, 10}, {-11, 11}};
        for (int[] one : limits) {
            Bench b = banded("terms, held within " + one[1], 0);
            b.done("setLimits", 0, one[0], one[1]);
            output(b, 1, Math.min(10, one[1]));
            output(b, -1, Math.max(-10, one[0]));
            b.due(0, "held", 0);
        }
        Bench c = banded("terms, both held at one value", 0);
        c.done("setLimits", 0, 4, 4);
        output(c, 1, 4);
        output(c, -1, 4);
    }

    private static void termsDoneAtTheSoonest() {
        Bench b = Steering.begun("terms, the fourth one", 10);
        for (int n = 1; n <= 7; n++) {
            Steering.steer(b, n % 2 == 0 ? Steering.UP : Steering.DOWN, 0);
            b.due(1, "experiment", 0);
            b.due(3, "mode", 0);
            notTold(b, 0);
        }
        Steering.steer(b, Steering.UP, 0);
        b.due(2, "experiment", 0);
        b.due(1, "mode", 0);
        // What goes by behind it is no part of it.
        Steering.rise(b, 4);
        b.due(2, "experiment", 0);
        b.due(2, "period", 0);
    }

    /** The fourth one comes at the 398th, the 399th and the 400th sample. */
    private static void termsDoneAtEachOfTheLastSamples() {
        for (int last = 398; last <= 400; last++) {
            Bench b = Steering.begun("terms, done at the sample " + last, 10);
            Steering.rise(b, 3);
            Steering.steer(b, Steering.DOWN, 0);
            b.due(200, "run", 193);
            b.due(last - 1, "run", last - 201);
            b.due(1, "experiment", 0);
            Steering.steer(b, Steering.UP, 0);
            b.due(2, "experiment", 0);
            b.due(10, "output", 0);
            b.due(1, "mode", 0);
            b.due((last - 4) / 2, "period", 0);
        }
    }

    private static void termsFailedAtTheLastSample() {
        for (int rises = 0; rises <= 3; rises++) {
            Bench b = Steering.begun("terms, failed with " + rises, 10);
            Steering.rise(b, rises);
            Steering.steer(b, Steering.DOWN, 0);
            b.due(200, "run", 199 - 2 * rises);
            b.due(399, "run", 199);
            b.due(1, "experiment", 0);
            b.due(3, "mode", 0);
            notTold(b, 0);
            // The fourth one would come with the 401st sample.
            Steering.steer(b, rises == 3 ? Steering.DOWN : Steering.UP, 0);
            b.due(3, "experiment", 0);
            b.due(1, "mode", 0);
            notTold(b, 0);
            Steering.steer(b, Steering.UP, 0);
            b.due(3, "experiment", 0);
            notTold(b, 0);
        }
    }

    private static void termsWholeTimeInTwoCalls() {
        Bench b = banded("terms, 400 samples by two calls", 5);
        b.due(200, "run", 200);
        b.due(1, "experiment", 0);
        b.due(400, "run", 200);
        b.due(3, "experiment", 0);
        b.due(1, "mode", 0);
        // The next one has its own 400 samples.
        b.done("startRelay", 0, 10, 5);
        b.due(600, "run", 200);
        b.due(799, "run", 199);
        b.due(1, "experiment", 0);
        b.due(800, "run", 1);
        b.due(3, "experiment", 0);
        // Ended within a call: the rest of its samples are automatic ones.
        Bench c = banded("terms, ended within a call", 5);
        c.due(199, "run", 199);
        c.due(0, "setSetpoint", 0, 3);
        c.due(399, "run", 200);
        c.due(401, "run", 2);
        c.due(3, "experiment", 0);
        // Settled at 0 with the error 3, then grown once.
        c.due(-3000 + 300, "integral", 0);
    }

    private static void termsSettledWhenItIsDone() {
        Bench b = new Bench("terms, settled when it is done");
        b.done("setPlant", 0, 0, 0, 0, 0);
        b.due(0, "setGains", 0, 300, 20, 70);
        b.due(0, "setHand", 0, 2500);
        b.due(1, "run", 1);
        b.due(0, "setMode", 0, 1);
        b.done("startRelay", 0, 100, 0);
        Steering.rise(b, 3);
        Steering.steer(b, Steering.DOWN, 40);
        Steering.steer(b, Steering.DOWN, 55);
        Steering.steer(b, Steering.UP, 90);
        b.due(2, "experiment", 0);
        // y(k) is 55 and y(k - 1) is 40 at that sample; 90 is that of the next.
        b.due(2500000 - 300L * (900000 - 55) + 70 * 15, "integral", 0);
        b.due(2600, "output", 0);
        b.due(90, "measure", 0);
        b.due(1, "setMode", 0, 0);
        b.due(2600, "setHand", 0, 0);
    }

    private static void termsSettledWhenItHasFailed() {
        Bench b = new Bench("terms, settled when it has failed");
        b.done("setPlant", 0, 0, 0, 0, 0);
        b.due(0, "setGains", 0, 300, 20, 70);
        b.due(0, "setHand", 0, 2500);
        b.due(1, "run", 1);
        b.due(0, "setMode", 0, 1);
        b.done("startRelay", 0, 100, 0);
        b.due(201, "run", 200);
        b.due(398, "run", 197);
        Steering.steer(b, Steering.DOWN, 40);
        Steering.steer(b, Steering.DOWN, 55);
        b.due(1, "experiment", 0);
        Steering.steer(b, Steering.DOWN, 90);
        b.due(3, "experiment", 0);
        b.due(2500000 + 300L * (900000 + 55) + 70 * 15, "integral", 0);
        b.due(2400, "output", 0);
        b.due(1, "mode", 0);
    }

    private static void termsOutputOfTheLastSampleIsTheRelays() {
        Bench b = Steering.begun("terms, the output of the last sample", 30);
        b.done("setTies", 1, 0, 1);
        b.due(0, "setMode", 1, 2);
        Steering.rise(b, 4);
        b.due(2, "experiment", 0);
        b.due(30, "output", 0);
        b.due(30, "setpoint", 1);
        // Automatic from the next sample on: settled at 0, then grown by 100 * 900000.
        Steering.steer(b, Steering.UP, 0);
        b.due(90000, "output", 0);
        b.due(90000, "setpoint", 1);
    }

    private static void termsStarvedFromTheNextSampleOn() {
        Bench b = Steering.begun("terms, a master that has ended", 30);
        b.done("setTies", 1, 0, 1);
        b.due(0, "setSetpoint", 1, 77);
        Steering.rise(b, 4);
        b.due(2, "experiment", 0);
        b.due(0, "wasStarved", 0);
        b.due(30, "output", 0);
        Steering.steer(b, Steering.UP, 0);
        b.due(1, "wasStarved", 0);
        b.due(77, "output", 0);
    }

    private static void promise23NoSuchLoop() {
        Edge.loops("promise 23, loops", Edge.FRESH, "experiment", 0);
        Edge.loops("promise 23, loops", Edge.inMode(2, 3), "experiment", 0);
    }

    private static void promise23None() {
        for (int loop = 0; loop < 3; loop++) {
            Bench b = new Bench("promise 23, there was none");
            b.due(0, "experiment", loop);
            b.refused(Bench.STATE, "startRelay", loop, 1, 0);
            b.due(0, "experiment", loop);
            b.due(0, "setMode", loop, 1);
            b.refused(Bench.ARGUMENT, "startRelay", loop, 0, 0);
            b.due(0, "experiment", loop);
            b.due(200, "run", 200);
            b.due(0, "experiment", loop);
        }
    }

    private static void promise23GoesOn() {
        for (int loop = 0; loop < 3; loop++) {
            Bench b = new Bench("promise 23, it goes on, loop " + loop);
            Edge.still(b, loop);
            b.done("startRelay", loop, 1, 0);
            b.due(1, "experiment", loop);
            b.due(1, "run", 1);
            b.due(1, "experiment", loop);
            b.due(0, "experiment", (loop + 1) % 3);
            b.refused(Bench.STATE, "setMode", loop, 1);
            b.refused(Bench.STATE, "startRelay", loop, 1, 0);
            b.due(1, "experiment", loop);
        }
    }

    private static void promise23GivenUp() {
        Bench b = Steering.begun("promise 23, given up ahead of its first sample", 10);
        b.due(3, "setMode", 0, 0);
        b.due(0, "experiment", 0);
        notTold(b, 0);
        Bench c = Steering.begun("promise 23, given up ahead of the fourth", 10);
        Steering.rise(c, 3);
        Steering.steer(c, Steering.DOWN, 0);
        c.due(3, "setMode", 0, 0);
        c.due(0, "experiment", 0);
        Steering.steer(c, Steering.UP, 0);
        c.due(0, "experiment", 0);
        notTold(c, 0);
        // The one before it is not told again.
        Bench d = Steering.told("promise 23, given up behind one that was done", 100, 200);
        d.done("startRelay", 0, 10, 0);
        d.due(3, "setMode", 0, 0);
        d.due(0, "experiment", 0);
        notTold(d, 0);
    }

    private static void promise23DoneOrFailedStaysBehindHand() {
        Bench done = Steering.told("promise 23, done, and then in hand", 100, 200);
        done.due(1, "setMode", 0, 0);
        done.due(2, "experiment", 0);
        done.due(0, "setMode", 0, 1);
        done.due(2, "experiment", 0);
        done.due(1273, "ultimateGain", 0);
        Bench failed = banded("promise 23, failed, and then in hand", 5);
        failed.due(200, "run", 200);
        failed.due(400, "run", 200);
        failed.due(1, "setMode", 0, 0);
        failed.due(3, "experiment", 0);
        failed.due(0, "setMode", 0, 1);
        failed.due(3, "experiment", 0);
    }

    private static void promises24To26NoSuchLoop() {
        for (int n = 0; n < TOLD.length; n++) {
            String sentence = "promise " + (24 + n) + ", loops";
            Edge.noSuchLoop(sentence, Edge.FRESH, TOLD[n], 0);
            Edge.noSuchLoop(sentence, EdgeExperimentsTest::done, TOLD[n], 0);
            Edge.taken(sentence, EdgeExperimentsTest::done, TOLD[n], 0);
        }
    }

    /** Loop 0 with an experiment that is done, with the period 2 and the swing 200. */
    private static void done(Bench b) {
        b.done("setPlant", 0, 0, 0, 0, 0);
        b.done("setLimits", 0, -1000000, 1000000);
        b.due(0, "setMode", 0, 1);
        b.done("startRelay", 0, 100, 0);
        Steering.rise(b, 3);
        Steering.steer(b, Steering.DOWN, 200);
        Steering.steer(b, Steering.DOWN, 0);
        Steering.steer(b, Steering.UP, 0);
        b.due(2, "experiment", 0);
    }

    /** The same without a swing. */
    private static void doneWithoutASwing(Bench b) {
        b.done("setPlant", 0, 0, 0, 0, 0);
        b.due(0, "setMode", 0, 1);
        b.done("startRelay", 0, 100, 0);
        Steering.rise(b, 4);
        b.due(2, "experiment", 0);
        b.due(0, "swing", 0);
    }

    private static void failed(Bench b) {
        Edge.still(b, 0);
        b.done("startRelay", 0, 100, 0);
        b.due(200, "run", 200);
        b.due(400, "run", 200);
        b.due(3, "experiment", 0);
    }

    private static void givenUp(Bench b) {
        done(b);
        b.done("startRelay", 0, 100, 0);
        b.due(3, "setMode", 0, 0);
        b.due(0, "experiment", 0);
    }

    private static void promises24To27NotDone() {
        for (int n = 0; n < TOLD.length; n++) {
            String sentence = "promise " + (24 + n) + ", not done";
            for (int loop = 0; loop < 3; loop++) {
                Edge.refused(sentence, Edge.FRESH, Bench.STATE, TOLD[n], loop);
                Edge.refused(sentence, Edge.inMode(loop, 3), Bench.STATE, TOLD[n], loop);
            }
            Edge.refused(sentence, EdgeExperimentsTest::failed, Bench.STATE, TOLD[n], 0);
            Edge.refused(sentence, EdgeExperimentsTest::givenUp, Bench.STATE, TOLD[n], 0);
            Edge.refused(sentence, EdgeExperimentsTest::done, Bench.STATE, TOLD[n], 1);
        }
        for (int rule = 0; rule <= 1; rule++) {
            for (int which = 0; which <= 2; which++) {
                String sentence = "promise 27, not done";
                for (int loop = 0; loop < 3; loop++) {
                    Edge.refused(sentence, Edge.FRESH, Bench.STATE, "proposed", loop, rule, which);
                    Edge.refused(sentence, Edge.inMode(loop, 3), Bench.STATE, "proposed", loop, rule, which);
                }
                Edge.refused(sentence, EdgeExperimentsTest::failed, Bench.STATE, "proposed", 0, rule, which);
                Edge.refused(sentence, EdgeExperimentsTest::givenUp, Bench.STATE, "proposed", 0, rule, which);
                Edge.refused(sentence, EdgeExperimentsTest::done, Bench.STATE, "proposed", 2, rule, which);
                Edge.taken(sentence, EdgeExperimentsTest::done, "proposed", 0, rule, which);
            }
        }
    }

    private static void promise24RoundedDown() {
        for (int more = 0; more <= 3; more++) {
            Bench b = Steering.begun("promise 24, " + (4 + more) + " samples", 10);
            Steering.rise(b, 3);
            for (int n = 0; n < more; n++) {
                Steering.steer(b, Steering.UP, 0);
            }
            Steering.rise(b, 1);
            b.due((4 + more) / 2, "period", 0);
        }
    }

    private static void promise24LeastAndGreatest() {
        Bench least = Steering.begun("promise 24, the least period", 10);
        Steering.rise(least, 4);
        least.due(2, "period", 0);
        // The second one at the 4th sample, the fourth at the 400th.
        Bench greatest = longest("promise 24, the greatest period");
        greatest.due(198, "period", 0);
        // What is ahead of the second one does not count.
        Bench late = Steering.begun("promise 24, a late second one", 10);
        Steering.rise(late, 1);
        Steering.steer(late, Steering.DOWN, 0);
        late.due(200, "run", 197);
        late.due(394, "run", 194);
        Steering.steer(late, Steering.UP, 0);
        Steering.rise(late, 2);
        late.due(2, "experiment", 0);
        late.due(2, "period", 0);
    }

    /** The height 1000, the period 198 and the swing 10000. */
    private static Bench longest(String title) {
        Bench b = Steering.begun(title, 1000);
        Steering.rise(b, 3);
        Steering.steer(b, Steering.DOWN, 10000);
        Steering.steer(b, Steering.DOWN, 0);
        b.due(200, "run", 192);
        b.due(399, "run", 199);
        Steering.steer(b, Steering.UP, 0);
        b.due(2, "experiment", 0);
        b.due(10000, "swing", 0);
        return b;
    }

    /** The measure of one sample at or about the third or the fourth one lies beyond all others, by 5. */
    private static void promise25ThirdIncludedFourthNot() {
        for (int beyond : new int[] {5, -5}) {
            for (int at = -1; at <= 3; at++) {
                Bench b = Steering.begun("promise 25, " + beyond + " at " + at + " from the third", 10);
                Steering.rise(b, 1);
                int[] ways = {Steering.DOWN, Steering.UP, Steering.DOWN, Steering.UP, Steering.UP, Steering.DOWN,
                    Steering.UP};
                for (int n = 0; n < ways.length; n++) {
                    // The third one is at 3, the fourth one at 6; what is steered comes at the next sample.
                    Steering.steer(b, ways[n], n + 1 == 3 + at ? beyond : 0);
                }
                b.due(2, "experiment", 0);
                b.due(at >= 0 && at <= 2 ? 5 : 0, "swing", 0);
            }
        }
    }

    private static void promise25LeastAndGreatest() {
        Bench zero = Steering.begun("promise 25, a swing of 0 is told", 10);
        Steering.rise(zero, 4);
        zero.due(0, "swing", 0);
        Steering.told("promise 25, a swing of 1", 10, 1);
        widest("promise 25, the greatest swing", 10).due(2000000, "swing", 0);
    }

    /** The measure goes from 1000000 to -1000000 between the third one and the fourth. */
    private static Bench widest(String title, int height) {
        Bench b = Steering.begun(title, height);
        Steering.rise(b, 3);
        b.done("setPlant", 0, 2000, 0, 0, 0);
        Steering.steer(b, -1000000, 10000);
        for (int n = 0; n < 9; n++) {
            Steering.steer(b, -1000000, 10000);
        }
        b.due(1000000, "measure", 0);
        b.done("setPlant", 0, -2000, 0, 0, 0);
        Steering.steer(b, -1000000, -10000);
        b.due(-1000000, "measure", 0);
        Steering.steer(b, -1000000, 0);
        b.done("setPlant", 0, 0, 0, 0, 0);
        Steering.steer(b, -1000000, 0);
        b.due(1, "experiment", 0);
        Steering.steer(b, 1000000, 0);
        b.due(2, "experiment", 0);
        return b;
    }

    private static void promise26NoSwing() {
        Edge.refused("promise 26, the swing is 0", EdgeExperimentsTest::doneWithoutASwing, Bench.STATE, "ultimateGain",
            0);
        Steering.told("promise 26, the swing is 1", 1, 1).due(2546, "ultimateGain", 0);
    }

    private static void promise26RoundedDown() {
        int[][] due = {{355, 904, 1000}, {355, 905, 998}, {355, 903, 1001}, {36, 11, 8333}, {743, 227, 8334}};
        for (int[] one : due) {
            Steering.told("promise 26, rounded down", one[0], one[1]).due(one[2], "ultimateGain", 0);
        }
    }

    private static void promise26LeastAndGreatest() {
        Steering.told("promise 26, an ultimate gain of 0", 1, 2547).due(0, "ultimateGain", 0);
        Steering.told("promise 26, an ultimate gain of 1", 1, 2546).due(1, "ultimateGain", 0);
        Steering.told("promise 26, the greatest", 100000, 1).due(254647887, "ultimateGain", 0);
        widest("promise 26, the greatest swing", 100000).due(127, "ultimateGain", 0);
        widest("promise 26, the least", 1).due(0, "ultimateGain", 0);
    }

    private static void promise27NoSuchLoopOrGain() {
        Edge.noSuchLoop("promise 27, loops", EdgeExperimentsTest::done, "proposed", 0, 0, 0);
        Edge.noSuchLoop("promise 27, loops", Edge.FRESH, "proposed", 0, 1, 2);
        for (int which : new int[] {-1, 3, Integer.MIN_VALUE, Integer.MAX_VALUE}) {
            for (int rule = 0; rule <= 1; rule++) {
                Edge.refused("promise 27, no such gain", EdgeExperimentsTest::done, Bench.INDEX, "proposed", 0, rule,
                    which);
                Edge.refused("promise 27, no such gain", Edge.FRESH, Bench.INDEX, "proposed", 2, rule, which);
            }
        }
    }

    private static void promise27RangeOfRule() {
        for (int which = 0; which <= 2; which++) {
            int[] a = {0, 0, which};
            Edge.range("promise 27, rule is 0 or 1", EdgeExperimentsTest::done, "proposed", a, 1, 0, 1);
        }
    }

    private static void promise27NoSwing() {
        for (int rule = 0; rule <= 1; rule++) {
            for (int which = 0; which <= 2; which++) {
                Edge.refused("promise 27, the swing is 0", EdgeExperimentsTest::doneWithoutASwing, Bench.STATE,
                    "proposed", 0, rule, which);
            }
        }
        due(Steering.told("promise 27, the swing is 1", 1, 1), 0, 1527, 1527, 381);
    }

    private static void promise27FirstException() {
        Edge.noSuchLoop("promise 27, the loop first", Edge.FRESH, "proposed", 0, 2, 3);
        for (int rule : new int[] {-1, 2}) {
            Edge.refused("promise 27, the gain ahead of the rule", EdgeExperimentsTest::done, Bench.INDEX, "proposed",
                0, rule, 3);
            Edge.refused("promise 27, the gain ahead of all", Edge.FRESH, Bench.INDEX, "proposed", 0, rule, -1);
            Edge.refused("promise 27, the rule ahead of the experiment", Edge.FRESH, Bench.ARGUMENT, "proposed", 0,
                rule, 0);
            Edge.refused("promise 27, the rule ahead of the swing", EdgeExperimentsTest::doneWithoutASwing,
                Bench.ARGUMENT, "proposed", 0, rule, 2);
        }
        Edge.refused("promise 27, the gain ahead of the swing", EdgeExperimentsTest::doneWithoutASwing, Bench.INDEX,
            "proposed", 0, 0, 3);
    }

    private static void due(Bench b, int rule, long p, long i, long d) {
        b.due(p, "proposed", 0, rule, 0);
        b.due(i, "proposed", 0, rule, 1);
        b.due(d, "proposed", 0, rule, 2);
    }

    /** Heights and swings whose ultimate gains lie about the places from which on a gain is held. */
    private static void promise27HeldAtTheMostByRule0() {
        due(Steering.told("promise 27, g is 33333", 1165, 89), 0, 19999, 5000, 4999);
        due(Steering.told("promise 27, g is 33334", 1885, 144), 0, 20000, 5000, 5000);
        due(Steering.told("promise 27, g is 33335", 144, 11), 0, 20000, 5000, 5000);
        due(Steering.told("promise 27, g is 8333", 36, 11), 0, 4999, 4999, 1249);
        due(Steering.told("promise 27, g is 8334", 743, 227), 0, 5000, 5000, 1250);
        due(Steering.told("promise 27, g is 8335", 383, 117), 0, 5001, 5000, 1250);
        due(Steering.told("promise 27, g is 333333", 31285, 239), 0, 20000, 5000, 49999);
        due(Steering.told("promise 27, g is 333334", 1309, 10), 0, 20000, 5000, 50000);
        due(Steering.told("promise 27, g is 333340", 5367, 41), 0, 20000, 5000, 50000);
    }

    private static void promise27HeldAtTheMostByRule1() {
        due(Steering.told("promise 27, g is 43999", 1054, 61), 1, 19999, 4545, 6349);
        due(Steering.told("promise 27, g is 44000", 743, 43), 1, 20000, 4545, 6349);
        due(Steering.told("promise 27, g is 44003", 432, 25), 1, 20000, 4545, 6349);
        due(Steering.told("promise 27, g is 48399", 2870, 151), 1, 20000, 4999, 6983);
        due(Steering.told("promise 27, g is 48400", 2718, 143), 1, 20000, 5000, 6984);
        due(Steering.told("promise 27, g is 48410", 1749, 92), 1, 20000, 5000, 6985);
        due(Steering.told("promise 27, g is 346499", 7756, 57), 1, 20000, 5000, 49999);
        due(Steering.told("promise 27, g is 346500", 9661, 71), 1, 20000, 5000, 50000);
        due(Steering.told("promise 27, g is 346507", 5579, 41), 1, 20000, 5000, 50000);
    }

    private static void promise27RoundedDownByTheLeastGains() {
        Bench none = Steering.told("promise 27, g is 0", 1, 2547);
        due(none, 0, 0, 0, 0);
        due(none, 1, 0, 0, 0);
        due(Steering.told("promise 27, g is 1", 1, 1274), 0, 0, 0, 0);
        due(Steering.told("promise 27, g is 2", 1, 849), 0, 1, 1, 0);
        due(Steering.told("promise 27, g is 3", 1, 637), 1, 1, 0, 0);
        due(Steering.told("promise 27, g is 10", 1, 232), 1, 4, 1, 1);
        due(Steering.told("promise 27, the greatest g", 100000, 1), 0, 20000, 5000, 50000);
        due(Steering.told("promise 27, the greatest g", 100000, 1), 1, 20000, 5000, 50000);
    }

    private static void promise27ByTheLongestPeriod() {
        Bench b = longest("promise 27, the longest period");
        b.due(254, "ultimateGain", 0);
        b.due(198, "period", 0);
        due(b, 0, 152, 1, 3771);
        due(b, 1, 115, 0, 3628);
    }
}
