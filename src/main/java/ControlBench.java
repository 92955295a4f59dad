/** Three control loops on sampled plants, with modes, schedules and relay experiments. */
public final class ControlBench {
    private static final int LOOPS = 3;
    private static final int MOST_SAMPLES = 200;
    private static final int MOST_SIGNAL = 1000000;
    private static final int MOST_P = 20000;
    private static final int MOST_I = 5000;
    private static final int MOST_D = 50000;

    private static final int HAND = 0;
    private static final int AUTOMATIC = 1;
    private static final int CASCADE = 2;
    private static final int RELAY = 3;

    private static final int GAIN_P = 0;
    private static final int GAIN_I = 1;
    private static final int GAIN_D = 2;

    private final Loop[] loops;
    private int samplesSoFar;

    public ControlBench() {
        loops = new Loop[LOOPS];
        for (int n = 0; n < loops.length; n++) {
            loops[n] = new Loop();
        }
    }

    // ---- plants

    public void setPlant(int loop, int a1, int a2, int b, int deadTime)
            throws IndexOutOfBoundsException, IllegalArgumentException {
        Plant plant = loopAt(loop).plant;
        requireWithin(a1, -2000, 2000);
        requireWithin(a2, -1000, 1000);
        requireWithin(b, -2000, 2000);
        requireWithin(deadTime, 0, Plant.MOST_DEAD_TIME);
        plant.a1 = a1;
        plant.a2 = a2;
        plant.b = b;
        plant.deadTime = deadTime;
    }

    public int setLoad(int loop, int load) throws IndexOutOfBoundsException, IllegalArgumentException {
        Plant plant = loopAt(loop).plant;
        requireWithin(load, -10000, 10000);
        int before = plant.load;
        plant.load = load;
        return before;
    }

    // ---- controllers

    public int setGains(int loop, int p, int i, int d)
            throws IndexOutOfBoundsException, IllegalArgumentException, IllegalStateException {
        Loop one = loopAt(loop);
        requireGains(p, i, d);
        requireState(one.mode != RELAY);
        one.controller.changeGains(p, i, d);
        return one.schedule.takeAway();
    }

    public int addPoint(int loop, int measure, int p, int i, int d)
            throws IndexOutOfBoundsException, IllegalArgumentException, IllegalStateException {
        Schedule schedule = loopAt(loop).schedule;
        requireWithin(measure, -MOST_SIGNAL, MOST_SIGNAL);
        requireGains(p, i, d);
        requireArgument(schedule.endsBelow(measure));
        requireState(!schedule.isFull());
        return schedule.addLast(measure, p, i, d);
    }

    public void setLimits(int loop, int low, int high) throws IndexOutOfBoundsException, IllegalArgumentException {
        Controller controller = loopAt(loop).controller;
        requireWithin(low, -MOST_SIGNAL, MOST_SIGNAL);
        requireWithin(high, low, MOST_SIGNAL);
        controller.low = low;
        controller.high = high;
    }

    public int setGuard(int loop, int guard, int share) throws IndexOutOfBoundsException, IllegalArgumentException {
        Controller controller = loopAt(loop).controller;
        requireWithin(guard, Controller.GUARD_NOTHING, Controller.GUARD_BACK_CALCULATION);
        requireWithin(share, 0, 1000);
        int before = controller.guard;
        controller.guard = guard;
        controller.share = share;
        return before;
    }

    public int setSetpoint(int loop, int setpoint)
            throws IndexOutOfBoundsException, IllegalArgumentException, IllegalStateException {
        Loop one = loopAt(loop);
        requireWithin(setpoint, -MOST_SIGNAL, MOST_SIGNAL);
        requireState(one.mode != CASCADE);
        long before = one.controller.setpoint;
        one.controller.setpoint = setpoint;
        return (int) before;
    }

    public int setHand(int loop, int value)
            throws IndexOutOfBoundsException, IllegalArgumentException, IllegalStateException {
        Loop one = loopAt(loop);
        requireWithin(value, -MOST_SIGNAL, MOST_SIGNAL);
        requireState(one.mode == HAND);
        long before = one.handValue;
        one.handValue = value;
        return (int) before;
    }

    public void setTies(int loop, boolean follows, boolean master)
            throws IndexOutOfBoundsException, IllegalArgumentException, IllegalStateException {
        Loop one = loopAt(loop);
        requireArgument(loop != 0 || !master);
        requireState(master || one.mode != CASCADE);
        one.follows = follows;
        one.hasMaster = master;
    }

    public int setMode(int loop, int mode)
            throws IndexOutOfBoundsException, IllegalArgumentException, IllegalStateException {
        Loop one = loopAt(loop);
        requireWithin(mode, HAND, CASCADE);
        requireState(one.mode != RELAY || mode == HAND);
        requireState(mode != CASCADE || one.hasMaster);
        int before = one.mode;
        one.changeMode(mode);
        return before;
    }

    // ---- samples and signals

    public int run(int samples) throws IllegalArgumentException {
        requireWithin(samples, 1, MOST_SAMPLES);
        for (int n = 0; n < samples; n++) {
            letOneSampleGoBy();
        }
        samplesSoFar += samples;
        return samplesSoFar;
    }

    public long measure(int loop) throws IndexOutOfBoundsException {
        return loopAt(loop).plant.measure;
    }

    public long output(int loop) throws IndexOutOfBoundsException {
        return loopAt(loop).output;
    }

    public long outputByIncrements(int loop) throws IndexOutOfBoundsException {
        return Math.floorDiv(loopAt(loop).controller.sumByIncrements, 1000L);
    }

    public long setpoint(int loop) throws IndexOutOfBoundsException {
        return loopAt(loop).controller.setpoint;
    }

    public long integral(int loop) throws IndexOutOfBoundsException {
        return loopAt(loop).controller.integral;
    }

    public int gain(int loop, int which) throws IndexOutOfBoundsException {
        Controller controller = loopAt(loop).controller;
        requireGainNumber(which);
        if (which == GAIN_P) {
            return controller.p;
        }
        return which == GAIN_I ? controller.i : controller.d;
    }

    public int mode(int loop) throws IndexOutOfBoundsException {
        return loopAt(loop).mode;
    }

    public boolean wasStarved(int loop) throws IndexOutOfBoundsException {
        return loopAt(loop).starved;
    }

    public int held(int loop) throws IndexOutOfBoundsException {
        return loopAt(loop).controller.heldSamples;
    }

    // ---- experiments

    public void startRelay(int loop, int height, int band)
            throws IndexOutOfBoundsException, IllegalArgumentException, IllegalStateException {
        Loop one = loopAt(loop);
        requireWithin(height, 1, 100000);
        requireWithin(band, 0, 100000);
        requireState(one.mode == AUTOMATIC);
        one.relay.begin(one.output, height, band);
        one.mode = RELAY;
    }

    public int experiment(int loop) throws IndexOutOfBoundsException {
        return loopAt(loop).relay.progress;
    }

    public int period(int loop) throws IndexOutOfBoundsException, IllegalStateException {
        Relay relay = loopAt(loop).relay;
        requireState(relay.progress == Relay.DONE);
        return relay.period;
    }

    public long swing(int loop) throws IndexOutOfBoundsException, IllegalStateException {
        Relay relay = loopAt(loop).relay;
        requireState(relay.progress == Relay.DONE);
        return relay.swing;
    }

    public int ultimateGain(int loop) throws IndexOutOfBoundsException, IllegalStateException {
        Relay relay = loopAt(loop).relay;
        requireState(relay.progress == Relay.DONE && relay.swing > 0);
        return (int) relay.gainAtTheEdge();
    }

    public int proposed(int loop, int rule, int which)
            throws IndexOutOfBoundsException, IllegalArgumentException, IllegalStateException {
        Relay relay = loopAt(loop).relay;
        requireGainNumber(which);
        requireWithin(rule, Relay.ZIEGLER_NICHOLS, Relay.TYREUS_LUYBEN);
        requireState(relay.progress == Relay.DONE && relay.swing > 0 && relay.period > 0);
        if (which == GAIN_P) {
            return (int) Math.min(relay.proposedP(rule), MOST_P);
        }
        if (which == GAIN_I) {
            return (int) Math.min(relay.proposedI(rule), MOST_I);
        }
        return (int) Math.min(relay.proposedD(rule), MOST_D);
    }

    // ---- what the calls share

    private Loop loopAt(int loop) {
        if (loop < 0 || loop >= loops.length) {
            throw new IndexOutOfBoundsException("no such loop");
        }
        return loops[loop];
    }

    private static void requireGainNumber(int which) {
        if (which < GAIN_P || which > GAIN_D) {
            throw new IndexOutOfBoundsException("no such gain");
        }
    }

    private static void requireGains(int p, int i, int d) {
        requireWithin(p, -MOST_P, MOST_P);
        requireWithin(i, -MOST_I, MOST_I);
        requireWithin(d, -MOST_D, MOST_D);
    }

    private static void requireWithin(int value, int low, int high) {
        requireArgument(value >= low && value <= high);
    }

    private static void requireArgument(boolean fits) {
        if (!fits) {
            throw new IllegalArgumentException("out of range");
        }
    }

    private static void requireState(boolean fits) {
        if (!fits) {
            throw new IllegalStateException("not in this state");
        }
    }

    private void letOneSampleGoBy() {
        for (int n = 0; n < loops.length; n++) {
            takeTurn(n);
        }
        // Only now, so that every loop has seen the measures of the same sample.
        for (int n = 0; n < loops.length; n++) {
            loops[n].plant.goOn(loops[n].output);
        }
    }

    private void takeTurn(int n) {
        if (n < 0 || n >= loops.length) {
            return;
        }
        Loop loop = loops[n];
        if (loop.mode == CASCADE && n > 0) {
            loop.controller.setpoint = loops[n - 1].output;
        }
        loop.starved = false;
        if (n + 1 < loops.length && loop.isStarvedBy(loops[n + 1])) {
            loop.giveWay(loops[n + 1].controller.setpoint);
        } else if (loop.mode == HAND) {
            loop.actByHand();
        } else if (loop.mode == RELAY) {
            loop.actAsRelay();
        } else {
            loop.actAutomatically();
        }
    }

    private static long hold(long value, long low, long high) {
        return Math.max(low, Math.min(high, value));
    }

    /** What one controller drives: a measure that goes on from sample to sample. */
    private static final class Plant {
        static final int MOST_DEAD_TIME = 10;
        // The output of the sample itself, and one for each sample of the longest dead time.
        private static final int KEPT_OUTPUTS = 11;

        int a1 = 800;
        int a2;
        int b = 200;
        int deadTime;
        int load;
        long measure;
        long measureBefore;
        private final long[] outputs = new long[KEPT_OUTPUTS];
        private int latest;

        void goOn(long output) {
            latest = Math.floorMod(latest + 1, KEPT_OUTPUTS);
            outputs[latest] = output;
            long driving = outputs[Math.floorMod(latest - deadTime, KEPT_OUTPUTS)];
            long drift = Math.floorDiv(a1 * measure + a2 * measureBefore + b * driving, 1000L);
            measureBefore = measure;
            measure = hold(drift + load, -MOST_SIGNAL, MOST_SIGNAL);
        }
    }

    /** The gains over the measure, by points with rising measures. */
    private static final class Schedule {
        private static final int MOST_POINTS = 5;

        private int points;
        private final int[] measures = new int[MOST_POINTS];
        private final int[] ps = new int[MOST_POINTS];
        private final int[] is = new int[MOST_POINTS];
        private final int[] ds = new int[MOST_POINTS];

        boolean hasPoints() {
            return points > 0;
        }

        boolean isFull() {
            return points >= MOST_POINTS;
        }

        boolean endsBelow(int measure) {
            return points <= 0 || points > MOST_POINTS || measures[points - 1] < measure;
        }

        int addLast(int measure, int p, int i, int d) {
            if (points >= 0 && points < MOST_POINTS) {
                measures[points] = measure;
                ps[points] = p;
                is[points] = i;
                ds[points] = d;
                points++;
            }
            return points;
        }

        int takeAway() {
            int before = points;
            points = 0;
            return before;
        }

        /** How many points have their measure at this one or below: the place of the next point above. */
        int pointsReached(long measure) {
            int reached = 0;
            while (reached < points && reached < MOST_POINTS && measures[reached] <= measure) {
                reached++;
            }
            return reached;
        }

        int pAt(int upper, long measure) {
            return gainAt(ps, upper, measure);
        }

        int iAt(int upper, long measure) {
            return gainAt(is, upper, measure);
        }

        int dAt(int upper, long measure) {
            return gainAt(ds, upper, measure);
        }

        private int gainAt(int[] gains, int upper, long measure) {
            if (upper <= 0) {
                return gains[0];
            }
            int lower = upper - 1;
            if (upper >= points || upper >= MOST_POINTS) {
                return gains[Math.min(lower, MOST_POINTS - 1)];
            }
            long width = (long) measures[upper] - measures[lower];
            long rise = (long) gains[upper] - gains[lower];
            if (width <= 0) {
                return gains[upper];
            }
            return gains[lower] + (int) Math.floorDiv(rise * (measure - measures[lower]), width);
        }
    }

    /** The PID arithmetic on a plant: the gains, the integral and the guard against windup. */
    private static final class Controller {
        static final int GUARD_NOTHING = 0;
        static final int GUARD_CLAMPING = 1;
        static final int GUARD_BACK_CALCULATION = 2;

        int p = 1000;
        int i = 100;
        int d;
        int low;
        int high = 100000;
        int guard;
        int share = 500;
        int heldSamples;
        long setpoint;
        long integral;
        long sumByIncrements;
        final Plant plant = new Plant();
        private long latestError;
        private long latestRate;
        // Whether the loop's latest sample was automatic, and it has not been settled since.
        private boolean goesOn;

        long error() {
            return setpoint - plant.measure;
        }

        private long rate() {
            return plant.measureBefore - plant.measure;
        }

        long withinLimits(long value) {
            return hold(value, low, high);
        }

        void changeGains(int newP, int newI, int newD) {
            // So the sum stays: what the other terms lose, the integral gains.
            integral += (p - newP) * error() + (d - newD) * rate();
            p = newP;
            i = newI;
            d = newD;
        }

        void settle(long output) {
            integral = 1000 * output - p * error() - d * rate();
            goesOn = false;
        }

        long automaticSample() {
            long error = error();
            long rate = rate();
            integral += i * error;
            long sum = p * error + integral + d * rate;
            countIncrements(error, rate, sum);
            long wanted = Math.floorDiv(sum, 1000L);
            long output = withinLimits(wanted);
            if (output != wanted) {
                heldSamples++;
            }
            guardAgainstWindup(error, wanted, output);
            return output;
        }

        private void countIncrements(long error, long rate, long sum) {
            if (goesOn) {
                sumByIncrements += p * (error - latestError) + i * error + d * (rate - latestRate);
            } else {
                sumByIncrements = sum;
            }
            latestError = error;
            latestRate = rate;
            goesOn = true;
        }

        private void guardAgainstWindup(long error, long wanted, long output) {
            if (guard == GUARD_CLAMPING) {
                boolean windsUp = wanted > high && error > 0 || wanted < low && error < 0;
                if (windsUp) {
                    integral -= i * error;
                }
            } else if (guard == GUARD_BACK_CALCULATION) {
                integral += share * (output - wanted);
            }
        }
    }

    /** One relay experiment at a time, and what the latest one told. */
    private static final class Relay {
        static final int NONE = 0;
        static final int GOES_ON = 1;
        static final int DONE = 2;
        static final int FAILED = 3;

        static final int ZIEGLER_NICHOLS = 0;
        static final int TYREUS_LUYBEN = 1;

        private static final int MOST_SAMPLES = 400;

        int progress;
        int period;
        long swing;
        long center;
        private int height;
        private int band;
        private boolean up;
        private int samples;
        private int rises;
        private int sampleOfSecondRise;
        private long greatest;
        private long least;

        void begin(long newCenter, int newHeight, int newBand) {
            progress = GOES_ON;
            center = newCenter;
            height = newHeight;
            band = newBand;
            up = true;
            samples = 0;
            rises = 0;
        }

        void giveUp() {
            progress = NONE;
        }

        long wanted() {
            return up ? center + height : center - height;
        }

        void sample(long error, long measure) {
            samples++;
            boolean wasUp = up;
            if (error > band) {
                up = true;
            } else if (error < -band) {
                up = false;
            }
            if (up && !wasUp) {
                noteRise(measure);
            } else {
                greatest = Math.max(greatest, measure);
                least = Math.min(least, measure);
            }
            if (progress == GOES_ON && samples >= MOST_SAMPLES) {
                progress = FAILED;
            }
        }

        private void noteRise(long measure) {
            rises++;
            if (rises == 2) {
                sampleOfSecondRise = samples;
            }
            if (rises >= 4) {
                period = (samples - sampleOfSecondRise) / 2;
                swing = greatest - least;
                progress = DONE;
            }
            greatest = measure;
            least = measure;
        }

        long gainAtTheEdge() {
            return swing > 0 ? Math.floorDiv(904000L * height, 355L * swing) : 0;
        }

        long proposedP(int rule) {
            long g = gainAtTheEdge();
            return rule == ZIEGLER_NICHOLS ? 6 * g / 10 : 10 * g / 22;
        }

        long proposedI(int rule) {
            long g = gainAtTheEdge();
            if (period <= 0) {
                return 0;
            }
            return rule == ZIEGLER_NICHOLS ? 12 * g / (10L * period) : 100 * g / (484L * period);
        }

        long proposedD(int rule) {
            long g = gainAtTheEdge();
            return rule == ZIEGLER_NICHOLS ? 3 * g * period / 40 : 100 * g * period / 1386;
        }
    }

    /** A plant with its controller, and what the loop does at its turn in a sample. */
    private static final class Loop {
        final Controller controller = new Controller();
        final Plant plant = controller.plant;
        final Schedule schedule = new Schedule();
        final Relay relay = new Relay();
        int mode = HAND;
        long handValue;
        boolean follows;
        boolean hasMaster;
        boolean starved;
        long output;

        void changeMode(int newMode) {
            if (newMode == mode) {
                return;
            }
            if (newMode == HAND) {
                goToHand();
            } else if (mode == HAND) {
                controller.settle(output);
            }
            mode = newMode;
        }

        private void goToHand() {
            handValue = output;
            if (mode == RELAY) {
                relay.giveUp();
            }
        }

        boolean isStarvedBy(Loop higher) {
            boolean acts = mode == AUTOMATIC || mode == CASCADE;
            return acts && higher.hasMaster && higher.mode != CASCADE;
        }

        void giveWay(long setpointOfHigher) {
            starved = true;
            output = controller.withinLimits(setpointOfHigher);
            controller.settle(output);
        }

        void actByHand() {
            if (follows) {
                controller.setpoint = plant.measure;
            }
            output = controller.withinLimits(handValue);
        }

        void actAutomatically() {
            if (schedule.hasPoints()) {
                long measure = plant.measure;
                int upper = schedule.pointsReached(measure);
                controller.changeGains(schedule.pAt(upper, measure), schedule.iAt(upper, measure),
                        schedule.dAt(upper, measure));
            }
            output = controller.automaticSample();
        }

        void actAsRelay() {
            relay.sample(controller.error(), plant.measure);
            output = controller.withinLimits(relay.wanted());
            if (relay.progress != Relay.GOES_ON) {
                controller.settle(relay.center);
                mode = AUTOMATIC;
            }
        }
    }
}
