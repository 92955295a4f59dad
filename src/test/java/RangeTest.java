/** The ranges of every argument of every call: their ends hold, and what is beyond them is refused. */
final class RangeTest {
    public static void main(String[] args) {
        range("setPlant", new int[] {0, 0, 0, 0, 0}, 1, -2000, 2000);
        range("setPlant", new int[] {0, 0, 0, 0, 0}, 2, -1000, 1000);
        range("setPlant", new int[] {0, 0, 0, 0, 0}, 3, -2000, 2000);
        range("setPlant", new int[] {0, 0, 0, 0, 0}, 4, 0, 10);
        range("setLoad", new int[] {0, 0}, 1, -10000, 10000);
        range("setGains", new int[] {0, 0, 0, 0}, 1, -20000, 20000);
        range("setGains", new int[] {0, 0, 0, 0}, 2, -5000, 5000);
        range("setGains", new int[] {0, 0, 0, 0}, 3, -50000, 50000);
        range("addPoint", new int[] {0, 0, 0, 0, 0}, 1, -1000000, 1000000);
        range("addPoint", new int[] {0, 0, 0, 0, 0}, 2, -20000, 20000);
        range("addPoint", new int[] {0, 0, 0, 0, 0}, 3, -5000, 5000);
        range("addPoint", new int[] {0, 0, 0, 0, 0}, 4, -50000, 50000);
        range("setLimits", new int[] {0, 0, 1000000}, 1, -1000000, 1000000);
        range("setLimits", new int[] {0, 100, 0}, 2, 100, 1000000);
        range("setLimits", new int[] {0, -1000000, 0}, 2, -1000000, 1000000);
        range("setGuard", new int[] {0, 0, 0}, 1, 0, 2);
        range("setGuard", new int[] {0, 0, 0}, 2, 0, 1000);
        range("setSetpoint", new int[] {0, 0}, 1, -1000000, 1000000);
        range("setHand", new int[] {0, 0}, 1, -1000000, 1000000);
        range("run", new int[] {0}, 0, 1, 200);
        automaticRange("startRelay", new int[] {0, 1, 0}, 1, 1, 100000);
        automaticRange("startRelay", new int[] {0, 1, 0}, 2, 0, 100000);
        modes();
        loops();
        gainNumbers();
        Bench.finish();
    }

    private static void range(String call, int[] a, int place, int low, int high) {
        for (int value : new int[] {low, high, low + (high - low) / 2}) {
            accepted(new Bench("range of " + call), call, a, place, value);
        }
        for (int value : new int[] {low - 1, high + 1, Integer.MIN_VALUE, Integer.MAX_VALUE}) {
            refused(new Bench("range of " + call), call, a, place, value);
        }
    }

    private static void automaticRange(String call, int[] a, int place, int low, int high) {
        for (int value : new int[] {low, high, low - 1, high + 1, Integer.MIN_VALUE, Integer.MAX_VALUE}) {
            Bench b = new Bench("range of " + call);
            b.due(0, "setMode", 0, 1);
            if (value >= low && value <= high) {
                accepted(b, call, a, place, value);
            } else {
                refused(b, call, a, place, value);
            }
        }
    }

    private static void accepted(Bench b, String call, int[] a, int place, int value) {
        int[] with = a.clone();
        with[place] = value;
        String answer = b.ask(call, with);
        Bench.expect(call + " with " + value + " at " + place, answer.startsWith("throws") ? answer : "", "");
    }

    private static void refused(Bench b, String call, int[] a, int place, int value) {
        int[] with = a.clone();
        with[place] = value;
        String before = b.signals();
        b.refused(Bench.ARGUMENT, call, with);
        Bench.expect(call + " with " + value + " at " + place + " changed something", b.signals(), before);
    }

    private static void modes() {
        for (int mode : new int[] {-1, 3, 4, Integer.MIN_VALUE, Integer.MAX_VALUE}) {
            refused(new Bench("range of setMode"), "setMode", new int[] {1, 0}, 1, mode);
        }
        for (int mode = 0; mode <= 2; mode++) {
            Bench b = new Bench("range of setMode");
            b.done("setTies", 1, 0, 1);
            accepted(b, "setMode", new int[] {1, 0}, 1, mode);
            b.due(mode, "mode", 1);
        }
        Bench b = new Bench("range of setTies");
        b.refused(Bench.ARGUMENT, "setTies", 0, 0, 1);
        b.refused(Bench.ARGUMENT, "setTies", 0, 1, 1);
        b.done("setTies", 0, 1, 0);
        b.done("setTies", 2, 1, 1);
    }

    private static void loops() {
        String[] signals = {"measure", "output", "outputByIncrements", "setpoint", "integral", "mode", "wasStarved",
            "held", "experiment", "period", "swing", "ultimateGain"};
        for (int loop : new int[] {-1, 3, 4, Integer.MIN_VALUE, Integer.MAX_VALUE}) {
            Bench b = new Bench("no loop " + loop);
            for (String call : signals) {
                b.refused(Bench.INDEX, call, loop);
            }
            b.refused(Bench.INDEX, "gain", loop, 0);
            b.refused(Bench.INDEX, "setPlant", loop, 0, 0, 0, 0);
            b.refused(Bench.INDEX, "setLoad", loop, 0);
            b.refused(Bench.INDEX, "setGains", loop, 0, 0, 0);
            b.refused(Bench.INDEX, "addPoint", loop, 0, 0, 0, 0);
            b.refused(Bench.INDEX, "setLimits", loop, 0, 0);
            b.refused(Bench.INDEX, "setGuard", loop, 0, 0);
            b.refused(Bench.INDEX, "setSetpoint", loop, 0);
            b.refused(Bench.INDEX, "setHand", loop, 0);
            b.refused(Bench.INDEX, "setTies", loop, 0, 0);
            b.refused(Bench.INDEX, "setMode", loop, 0);
            b.refused(Bench.INDEX, "startRelay", loop, 1, 0);
            b.refused(Bench.INDEX, "proposed", loop, 0, 0);
        }
    }

    private static void gainNumbers() {
        Bench b = new Bench("no such gain");
        for (int which : new int[] {-1, 3, Integer.MIN_VALUE, Integer.MAX_VALUE}) {
            b.refused(Bench.INDEX, "gain", 0, which);
            b.refused(Bench.INDEX, "proposed", 0, 0, which);
            b.refused(Bench.INDEX, "proposed", 0, 2, which);
        }
        for (int rule : new int[] {-1, 2, Integer.MIN_VALUE, Integer.MAX_VALUE}) {
            b.refused(Bench.ARGUMENT, "proposed", 0, rule, 2);
        }
    }
}
