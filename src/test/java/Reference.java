import java.math.BigInteger;
import java.util.ArrayList;
import java.util.List;

/**
 * The terms of the document once more, told slowly: whole histories, numbers without a bound,
 * and every sample's kind written down. Only for holding ControlBench against it.
 */
final class Reference {
    private static final BigInteger THOUSAND = BigInteger.valueOf(1000);

    private static final class Point {
        int measure;
        int[] gains;
    }

    private static final class State {
        int[] coefficients = {800, 0, 200};
        int deadTime = 0;
        int load = 0;
        List<Long> y = new ArrayList<>(List.of(0L));
        List<Long> u = new ArrayList<>();
        int[] gains = {1000, 100, 0};
        long low = 0;
        long high = 100000;
        int guard = 0;
        int share = 500;
        long s = 0;
        BigInteger integral = BigInteger.ZERO;
        BigInteger increments = BigInteger.ZERO;
        long hand = 0;
        int mode = 0;
        boolean follows = false;
        boolean master = false;
        boolean starved = false;
        int held = 0;
        List<Point> points = new ArrayList<>();
        // The sample that was automatic last, with its error and rate; -1 if there was none or it was settled since.
        int automaticAt = -1;
        long errorThen = 0;
        long rateThen = 0;
        int experiment = 0;
        int startedAt = 0;
        long center = 0;
        int height = 0;
        int band = 0;
        boolean up = true;
        List<Integer> rises = new ArrayList<>();
        int period = 0;
        long swing = 0;
    }

    final int[] seen = new int[8];
    private final State[] loops = {new State(), new State(), new State()};
    private int k = 0;

    String ask(String call, int... a) {
        if (call.equals("run")) {
            return a[0] < 1 || a[0] > 200 ? Bench.ARGUMENT : run(a[0]);
        }
        if (a[0] < 0 || a[0] > 2) {
            return Bench.INDEX;
        }
        State x = loops[a[0]];
        switch (call) {
            case "setPlant": return setPlant(x, a);
            case "setLoad": return setLoad(x, a[1]);
            case "setGains": return setGains(x, a);
            case "addPoint": return addPoint(x, a);
            case "setLimits": return setLimits(x, a[1], a[2]);
            case "setGuard": return setGuard(x, a[1], a[2]);
            case "setSetpoint": return setSetpoint(x, a[1]);
            case "setHand": return setHand(x, a[1]);
            case "setTies": return setTies(x, a);
            case "setMode": return setMode(x, a[1]);
            case "startRelay": return startRelay(x, a[1], a[2]);
            case "gain": return beyond(a[1], 0, 2) ? Bench.INDEX : "" + x.gains[a[1]];
            case "proposed": return proposed(x, a[1], a[2]);
            default: return signal(x, call);
        }
    }

    private static String signal(State x, String call) {
        switch (call) {
            case "measure": return "" + latest(x.y);
            case "output": return "" + latest(x.u);
            case "outputByIncrements": return floor(x.increments, THOUSAND).toString();
            case "setpoint": return "" + x.s;
            case "integral": return x.integral.toString();
            case "mode": return "" + x.mode;
            case "wasStarved": return x.starved ? "1" : "0";
            case "held": return "" + x.held;
            case "experiment": return "" + x.experiment;
            case "period": return x.experiment != 2 ? Bench.STATE : "" + x.period;
            case "swing": return x.experiment != 2 ? Bench.STATE : "" + x.swing;
            case "ultimateGain": return x.experiment != 2 || x.swing == 0 ? Bench.STATE : "" + ultimate(x);
            default: return "no such call";
        }
    }

    private static boolean beyond(int value, int low, int high) {
        return value < low || value > high;
    }

    private static boolean beyondGains(int p, int i, int d) {
        return beyond(p, -20000, 20000) || beyond(i, -5000, 5000) || beyond(d, -50000, 50000);
    }

    private static long latest(List<Long> signal) {
        return signal.isEmpty() ? 0 : signal.get(signal.size() - 1);
    }

    private static long at(List<Long> signal, int sample) {
        return sample < 0 ? 0 : signal.get(sample);
    }

    private static BigInteger product(long a, long b) {
        return BigInteger.valueOf(a).multiply(BigInteger.valueOf(b));
    }

    private static BigInteger floor(BigInteger a, BigInteger b) {
        BigInteger[] parts = a.divideAndRemainder(b);
        return parts[1].signum() != 0 && parts[1].signum() != b.signum() ? parts[0].subtract(BigInteger.ONE) : parts[0];
    }

    private static long within(long low, BigInteger value, long high) {
        return value.max(BigInteger.valueOf(low)).min(BigInteger.valueOf(high)).longValueExact();
    }

    private String setPlant(State x, int[] a) {
        if (beyond(a[1], -2000, 2000) || beyond(a[2], -1000, 1000) || beyond(a[3], -2000, 2000)
            || beyond(a[4], 0, 10)) {
            return Bench.ARGUMENT;
        }
        x.coefficients = new int[] {a[1], a[2], a[3]};
        x.deadTime = a[4];
        return Bench.DONE;
    }

    private String setLoad(State x, int load) {
        if (beyond(load, -10000, 10000)) {
            return Bench.ARGUMENT;
        }
        int before = x.load;
        x.load = load;
        return "" + before;
    }

    private String setGains(State x, int[] a) {
        if (beyondGains(a[1], a[2], a[3])) {
            return Bench.ARGUMENT;
        }
        if (x.mode == 3) {
            return Bench.STATE;
        }
        change(x, new int[] {a[1], a[2], a[3]});
        int before = x.points.size();
        x.points.clear();
        return "" + before;
    }

    private String addPoint(State x, int[] a) {
        if (beyond(a[1], -1000000, 1000000) || beyondGains(a[2], a[3], a[4])) {
            return Bench.ARGUMENT;
        }
        for (Point other : x.points) {
            if (a[1] <= other.measure) {
                return Bench.ARGUMENT;
            }
        }
        if (x.points.size() == 5) {
            return Bench.STATE;
        }
        Point point = new Point();
        point.measure = a[1];
        point.gains = new int[] {a[2], a[3], a[4]};
        x.points.add(point);
        return "" + x.points.size();
    }

    private String setLimits(State x, int low, int high) {
        if (beyond(low, -1000000, 1000000) || beyond(high, low, 1000000)) {
            return Bench.ARGUMENT;
        }
        x.low = low;
        x.high = high;
        return Bench.DONE;
    }

    private String setGuard(State x, int guard, int share) {
        if (beyond(guard, 0, 2) || beyond(share, 0, 1000)) {
            return Bench.ARGUMENT;
        }
        int before = x.guard;
        x.guard = guard;
        x.share = share;
        return "" + before;
    }

    private String setSetpoint(State x, int setpoint) {
        if (beyond(setpoint, -1000000, 1000000)) {
            return Bench.ARGUMENT;
        }
        if (x.mode == 2) {
            return Bench.STATE;
        }
        long before = x.s;
        x.s = setpoint;
        return "" + before;
    }

    private String setHand(State x, int value) {
        if (beyond(value, -1000000, 1000000)) {
            return Bench.ARGUMENT;
        }
        if (x.mode != 0) {
            return Bench.STATE;
        }
        long before = x.hand;
        x.hand = value;
        return "" + before;
    }

    private String setTies(State x, int[] a) {
        if (a[0] == 0 && a[2] != 0) {
            return Bench.ARGUMENT;
        }
        if (a[2] == 0 && x.mode == 2) {
            return Bench.STATE;
        }
        x.follows = a[1] != 0;
        x.master = a[2] != 0;
        return Bench.DONE;
    }

    private String setMode(State x, int mode) {
        if (beyond(mode, 0, 2)) {
            return Bench.ARGUMENT;
        }
        if (x.mode == 3 && mode != 0 || mode == 2 && !x.master) {
            return Bench.STATE;
        }
        int before = x.mode;
        if (before == 0 && mode != 0) {
            settle(x, latest(x.u));
        }
        if (before != 0 && mode == 0) {
            x.hand = latest(x.u);
        }
        if (before == 3 && mode == 0) {
            x.experiment = 0;
            seen[3]++;
        }
        x.mode = mode;
        return "" + before;
    }

    private String startRelay(State x, int height, int band) {
        if (beyond(height, 1, 100000) || beyond(band, 0, 100000)) {
            return Bench.ARGUMENT;
        }
        if (x.mode != 1) {
            return Bench.STATE;
        }
        x.mode = 3;
        x.experiment = 1;
        x.startedAt = k;
        x.center = latest(x.u);
        x.height = height;
        x.band = band;
        x.up = true;
        x.rises.clear();
        return Bench.DONE;
    }

    private static long ultimate(State x) {
        return floor(product(904000, x.height), product(355, x.swing)).longValueExact();
    }

    private String proposed(State x, int rule, int which) {
        if (beyond(which, 0, 2)) {
            return Bench.INDEX;
        }
        if (beyond(rule, 0, 1)) {
            return Bench.ARGUMENT;
        }
        if (x.experiment != 2 || x.swing == 0 || x.period == 0) {
            return Bench.STATE;
        }
        long g = ultimate(x);
        long t = x.period;
        long[][] above = {{6 * g, 12 * g, 3 * g * t}, {10 * g, 100 * g, 100 * g * t}};
        long[][] below = {{10, 10 * t, 40}, {22, 484 * t, 1386}};
        long[] most = {20000, 5000, 50000};
        return "" + Math.min(most[which], above[rule][which] / below[rule][which]);
    }

    private long error(State x) {
        return x.s - at(x.y, k);
    }

    private long rate(State x) {
        return at(x.y, k - 1) - at(x.y, k);
    }

    private BigInteger proportionalAndRate(State x) {
        return product(x.gains[0], error(x)).add(product(x.gains[2], rate(x)));
    }

    private void settle(State x, long output) {
        x.integral = product(1000, output).subtract(proportionalAndRate(x));
        x.automaticAt = -1;
    }

    private void change(State x, int[] gains) {
        BigInteger before = proportionalAndRate(x);
        x.gains = gains;
        x.integral = x.integral.add(before).subtract(proportionalAndRate(x));
    }

    private String run(int samples) {
        for (int n = 0; n < samples; n++) {
            for (int loop = 0; loop < 3; loop++) {
                turn(loop);
            }
            for (State x : loops) {
                goOn(x);
            }
            k++;
        }
        return "" + k;
    }

    private void goOn(State x) {
        BigInteger sum = product(x.coefficients[0], at(x.y, k)).add(product(x.coefficients[1], at(x.y, k - 1)))
            .add(product(x.coefficients[2], at(x.u, k - x.deadTime)));
        x.y.add(within(-1000000, floor(sum, THOUSAND).add(BigInteger.valueOf(x.load)), 1000000));
    }

    private void turn(int loop) {
        State x = loops[loop];
        if (x.mode == 2) {
            x.s = at(loops[loop - 1].u, k);
            seen[4]++;
        }
        State higher = loop == 2 ? null : loops[loop + 1];
        x.starved = (x.mode == 1 || x.mode == 2) && higher != null && higher.master && higher.mode != 2;
        if (x.starved) {
            seen[x.mode == 2 ? 5 : 0]++;
            x.u.add(within(x.low, BigInteger.valueOf(higher.s), x.high));
            settle(x, latest(x.u));
        } else if (x.mode == 0) {
            if (x.follows) {
                x.s = at(x.y, k);
            }
            x.u.add(within(x.low, BigInteger.valueOf(x.hand), x.high));
        } else if (x.mode == 3) {
            relaySample(x);
        } else {
            automaticSample(x);
        }
    }

    private void automaticSample(State x) {
        if (!x.points.isEmpty()) {
            change(x, scheduled(x.points, at(x.y, k)));
        }
        long e = error(x);
        long r = rate(x);
        BigInteger growth = product(x.gains[1], e);
        x.integral = x.integral.add(growth);
        BigInteger sum = x.integral.add(proportionalAndRate(x));
        if (x.automaticAt == k - 1 && k > 0) {
            x.increments = x.increments.add(product(x.gains[0], e - x.errorThen)).add(growth)
                .add(product(x.gains[2], r - x.rateThen));
        } else {
            x.increments = sum;
        }
        x.automaticAt = k;
        x.errorThen = e;
        x.rateThen = r;
        BigInteger wanted = floor(sum, THOUSAND);
        int above = wanted.compareTo(BigInteger.valueOf(x.high));
        int below = wanted.compareTo(BigInteger.valueOf(x.low));
        x.u.add(within(x.low, wanted, x.high));
        if (above > 0 || below < 0) {
            x.held++;
        }
        if (x.guard == 1 && (above > 0 && e > 0 || below < 0 && e < 0)) {
            x.integral = x.integral.subtract(growth);
            seen[6]++;
        }
        if (x.guard == 2) {
            BigInteger difference = BigInteger.valueOf(latest(x.u)).subtract(wanted);
            x.integral = x.integral.add(difference.multiply(BigInteger.valueOf(x.share)));
            seen[7] += difference.signum() == 0 ? 0 : 1;
        }
    }

    private static int[] scheduled(List<Point> points, long y) {
        Point first = points.get(0);
        Point last = points.get(points.size() - 1);
        if (y <= first.measure) {
            return first.gains;
        }
        if (y >= last.measure) {
            return last.gains;
        }
        int n = 0;
        while (points.get(n + 1).measure <= y) {
            n++;
        }
        Point lower = points.get(n);
        Point upper = points.get(n + 1);
        int[] gains = new int[3];
        for (int which = 0; which < 3; which++) {
            BigInteger rise = product(upper.gains[which] - lower.gains[which], y - lower.measure);
            BigInteger width = BigInteger.valueOf(upper.measure - lower.measure);
            gains[which] = lower.gains[which] + floor(rise, width).intValueExact();
        }
        return gains;
    }

    private void relaySample(State x) {
        long e = error(x);
        boolean before = x.up;
        x.up = e > x.band || e >= -x.band && before;
        if (x.up && !before) {
            x.rises.add(k);
        }
        x.u.add(within(x.low, BigInteger.valueOf(x.center + (x.up ? x.height : -x.height)), x.high));
        if (x.rises.size() == 4) {
            x.experiment = 2;
            x.period = (x.rises.get(3) - x.rises.get(1)) / 2;
            List<Long> between = x.y.subList(x.rises.get(2), x.rises.get(3));
            x.swing = java.util.Collections.max(between) - java.util.Collections.min(between);
            seen[1]++;
        } else if (k - x.startedAt + 1 == 400) {
            x.experiment = 3;
            seen[2]++;
        }
        if (x.experiment != 1) {
            settle(x, x.center);
            x.mode = 1;
        }
    }
}
