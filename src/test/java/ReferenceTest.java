import java.util.Arrays;

/** Long runs of calls in a fixed order that looks thrown together, held against the Reference. */
final class ReferenceTest {
    private static final int RUNS = 1000;
    // With the signals at the end they are 512, behind which the document promises nothing.
    private static final int CALLS = 449;
    private static final String[] SIGNALS = {"measure", "output", "outputByIncrements", "setpoint", "integral", "mode",
        "wasStarved", "held", "experiment", "period", "swing", "ultimateGain", "gain", "proposed"};
    private static final String[] CHANGES = {"setPlant", "setLoad", "setGains", "addPoint", "setLimits", "setGuard",
        "setSetpoint", "setHand", "setTies", "setMode", "startRelay"};

    private static long seed;

    public static void main(String[] args) {
        int[] seen = new int[8];
        for (int run = 0; run < RUNS; run++) {
            Reference reference = oneRun(run);
            for (int n = 0; n < seen.length; n++) {
                seen[n] += reference.seen[n];
            }
        }
        // A run that never comes to these would hold nothing against anything.
        for (int n = 0; n < seen.length; n++) {
            Bench.expect("seen " + Arrays.toString(seen), seen[n] >= 20 ? "often" : "seldom", "often");
        }
        Bench.finish();
    }

    private static Reference oneRun(int run) {
        seed = run;
        Bench bench = new Bench("reference, run " + run);
        Reference reference = new Reference();
        int width = run % 3;
        for (int n = 0; n < CALLS; n++) {
            int kind = below(10);
            String call = kind < 3 ? "run"
                : kind < 7 ? CHANGES[below(CHANGES.length)] : SIGNALS[below(SIGNALS.length)];
            int[] a = below(20) == 0 ? wrong(call) : width == 1 ? narrow(call) : right(call, width == 0);
            bench.answerDue(reference.ask(call, a), call, a);
        }
        allSignals(bench, reference);
        return reference;
    }

    private static void allSignals(Bench bench, Reference reference) {
        for (int loop = 0; loop < 3; loop++) {
            for (int n = 0; n < SIGNALS.length - 2; n++) {
                bench.answerDue(reference.ask(SIGNALS[n], loop), SIGNALS[n], loop);
            }
            for (int which = 0; which < 3; which++) {
                bench.answerDue(reference.ask("gain", loop, which), "gain", loop, which);
                bench.answerDue(reference.ask("proposed", loop, 0, which), "proposed", loop, 0, which);
                bench.answerDue(reference.ask("proposed", loop, 1, which), "proposed", loop, 1, which);
            }
        }
    }

    private static int below(int bound) {
        seed = seed * 6364136223846793005L + 1442695040888963407L;
        return (int) ((seed >>> 33) % bound);
    }

    private static int from(int low, int high) {
        return low + below(high - low + 1);
    }

    /** Arguments in their ranges; the wide ones are drawn from the whole of them. */
    private static int[] right(String call, boolean wide) {
        int loop = below(3);
        switch (call) {
            case "run": return new int[] {below(3) == 0 ? from(1, 200) : from(1, 5)};
            case "setPlant":
                return wide ? new int[] {loop, from(-2000, 2000), from(-1000, 1000), from(-2000, 2000), from(0, 10)}
                    : new int[] {loop, from(500, 950), from(-100, 40), from(50, 400), from(0, 5)};
            case "setLoad": return new int[] {loop, wide ? from(-10000, 10000) : from(-100, 100)};
            case "setGains":
                return wide ? new int[] {loop, from(-20000, 20000), from(-5000, 5000), from(-50000, 50000)}
                    : new int[] {loop, from(200, 2500), from(0, 200), from(-500, 1500)};
            case "addPoint":
                return wide ? new int[] {loop, from(-1000000, 1000000), from(-20000, 20000), from(-5000, 5000),
                    from(-50000, 50000)}
                    : new int[] {loop, from(-5000, 40000), from(200, 2500), from(0, 200), from(0, 900)};
            case "setLimits":
                return wide ? limits(loop, from(-1000000, 1000000))
                    : new int[] {loop, from(-20000, 2000), from(2000, 60000)};
            case "setGuard": return new int[] {loop, from(0, 2), from(0, 1000)};
            case "setSetpoint": return new int[] {loop, wide ? from(-1000000, 1000000) : from(0, 30000)};
            case "setHand": return new int[] {loop, wide ? from(-1000000, 1000000) : from(-5000, 30000)};
            case "setTies": return new int[] {loop, below(2), loop == 0 ? 0 : below(2)};
            case "setMode": return new int[] {loop, from(0, 2)};
            case "startRelay":
                return new int[] {loop, wide ? from(1, 100000) : from(1, 5000), from(0, wide ? 100000 : 50)};
            case "gain": return new int[] {loop, from(0, 2)};
            case "proposed": return new int[] {loop, from(0, 1), from(0, 2)};
            default: return new int[] {loop};
        }
    }

    /** Arguments so close together that signals often stand just at a limit, a band, a point or an error of 0. */
    private static int[] narrow(String call) {
        int loop = below(3);
        switch (call) {
            case "setPlant":
                return new int[] {loop, 1000 * from(-1, 1), 1000 * from(-1, 1), 500 * from(-2, 2), from(0, 2)};
            case "setLoad": return new int[] {loop, from(-2, 2)};
            case "setGains": return new int[] {loop, 500 * from(-2, 3), 500 * from(-1, 1), 500 * from(-1, 1)};
            case "addPoint":
                return new int[] {loop, from(-4, 4), 500 * from(-2, 3), 500 * from(-1, 1), 500 * from(-1, 1)};
            case "setLimits": return new int[] {loop, from(-5, 0), from(0, 5)};
            case "setGuard": return new int[] {loop, from(0, 2), 500 * from(0, 2)};
            case "setSetpoint": return new int[] {loop, from(-4, 4)};
            case "setHand": return new int[] {loop, from(-6, 6)};
            case "startRelay": return new int[] {loop, from(1, 5), from(0, 3)};
            default: return right(call, false);
        }
    }

    private static int[] limits(int loop, int low) {
        return new int[] {loop, low, from(low, 1000000)};
    }

    /** The right arguments, with one of them at or next beyond some bound. */
    private static int[] wrong(String call) {
        int[] bounds = {-1, 0, 1, 2, 3, 4, 10, 11, 200, 201, 1000, 1001, 2000, 2001, 5000, 5001, 10000, 10001, 20000,
            20001, 50000, 50001, 100000, 100001, 1000000, 1000001, Integer.MAX_VALUE};
        int[] a = right(call, true);
        int bound = bounds[below(bounds.length)];
        a[below(a.length)] = below(2) == 0 ? bound : -bound;
        return a;
    }
}
