import java.util.Arrays;
import java.util.function.Consumer;

/** What the tests of the boundary cases share: states to begin from, ranges, and refusals that leave nothing behind. */
final class Edge {
    static final Consumer<Bench> FRESH = b -> { };

    private static final int[] NO_LOOPS = {-1, 3, Integer.MIN_VALUE, Integer.MAX_VALUE};

    private Edge() {
    }

    /** The call is refused, and no later answer tells the object from one that was never asked. */
    static void refused(String sentence, Consumer<Bench> start, String exception, String call, int... a) {
        Bench asked = begun(sentence, start);
        Bench twin = begun(sentence, start);
        asked.refused(exception, call, a);
        same(sentence + ": behind " + call + Arrays.toString(a), everything(asked), everything(twin));
    }

    /** The call is answered without an exception. */
    static void taken(String sentence, Consumer<Bench> start, String call, int... a) {
        String answer = begun(sentence, start).ask(call, a);
        Bench.expect(sentence + ": " + call + Arrays.toString(a), answer.startsWith("throws") ? answer : "", "");
    }

    /** The values at both ends of a range are taken, those next beyond them and the farthest ones are refused. */
    static void range(String sentence, Consumer<Bench> start, String call, int[] a, int place, int low, int high) {
        for (int value : new int[] {low, low + 1, high - 1, high}) {
            taken(sentence, start, call, with(a, place, value));
        }
        for (int value : new int[] {low - 1, high + 1, Integer.MIN_VALUE, Integer.MAX_VALUE}) {
            refused(sentence, start, Bench.ARGUMENT, call, with(a, place, value));
        }
    }

    /** The loops 0 to 2 are taken, all others refused; a[0] is the place of the loop's number. */
    static void loops(String sentence, Consumer<Bench> start, String call, int... a) {
        for (int loop = 0; loop < 3; loop++) {
            taken(sentence, start, call, with(a, 0, loop));
        }
        noSuchLoop(sentence, start, call, a);
    }

    static void noSuchLoop(String sentence, Consumer<Bench> start, String call, int... a) {
        for (int loop : NO_LOOPS) {
            refused(sentence, start, Bench.INDEX, call, with(a, 0, loop));
        }
    }

    static int[] with(int[] a, int place, int value) {
        int[] other = a.clone();
        other[place] = value;
        return other;
    }

    /** All three loops set up unlike each other and at work, one of them in the mode. */
    static Consumer<Bench> inMode(int loop, int mode) {
        return b -> {
            for (int n = 0; n < 3; n++) {
                setUp(b, n);
            }
            b.done("setTies", 1, 1, 1);
            b.done("setTies", 2, 0, 1);
            b.due(3, "run", 3);
            for (int n = 0; n < 3; n++) {
                if (n != loop) {
                    b.due(0, "setMode", n, n == 0 ? 1 : 2);
                }
            }
            goTo(b, loop, mode);
            b.due(10, "run", 7);
            b.due(mode, "mode", loop);
        };
    }

    private static void setUp(Bench b, int n) {
        b.done("setPlant", n, 700 + 20 * n, 100 - 30 * n, 150 + 10 * n, 1 + n);
        b.due(0, "setLoad", n, 40 - 25 * n);
        b.due(0, "setGains", n, 900 + n, 60 + n, 120 - n);
        b.due(1, "addPoint", n, -3000 + n, 800 - n, 70 - n, 100 + n);
        b.due(2, "addPoint", n, 9000 + n, 1200 + n, 30 + n, 140 - n);
        b.done("setLimits", n, -3000 - n, 9000 + n);
        b.due(0, "setGuard", n, (n + 1) % 3, 300 + n);
        b.due(0, "setHand", n, 500 + n);
        b.due(0, "setSetpoint", n, 20000 + n);
    }

    private static void goTo(Bench b, int loop, int mode) {
        if (mode == 3) {
            b.due(0, "setMode", loop, 1);
            b.done("startRelay", loop, 800, 30);
        } else if (mode != 0) {
            b.due(0, "setMode", loop, mode);
        }
    }

    /** Loop 0 with a schedule of five points, in automatic. */
    static void fullSchedule(Bench b) {
        for (int n = 1; n <= 5; n++) {
            b.due(n, "addPoint", 0, 100 * n, 900 + n, 90 + n, n);
        }
        b.due(0, "setMode", 0, 1);
        b.due(0, "setSetpoint", 0, 450);
        b.due(8, "run", 8);
    }

    /** A loop whose measure stays as it is, in automatic with the error and the rate 0 and wide limits. */
    static void still(Bench b, int loop) {
        b.done("setPlant", loop, 1000, 0, 0, 0);
        b.done("setLimits", loop, -1000000, 1000000);
        b.due(0, "setMode", loop, 1);
        b.due(0, "integral", loop);
    }

    /** All signals, now and over many samples, and then the settings that no signal shows. */
    private static String everything(Bench b) {
        StringBuilder all = new StringBuilder(b.signals());
        for (int samples : new int[] {1, 9, 200}) {
            all.append(" run=").append(b.ask("run", samples)).append(' ').append(b.signals());
        }
        for (int loop = 0; loop < 3; loop++) {
            told(all, b, "setLoad", loop, 5);
            told(all, b, "setGuard", loop, 0, 0);
            told(all, b, "setSetpoint", loop, 7);
            told(all, b, "setMode", loop, 0);
            told(all, b, "setHand", loop, 1000000);
        }
        outputs(all, b);
        for (int loop = 0; loop < 3; loop++) {
            told(all, b, "setHand", loop, -1000000);
        }
        outputs(all, b);
        for (int loop = 0; loop < 3; loop++) {
            told(all, b, "setMode", loop, 2);
            told(all, b, "addPoint", loop, 999999, 1, 1, 1);
            told(all, b, "setGains", loop, 1, 1, 1);
        }
        return all.toString();
    }

    private static void outputs(StringBuilder all, Bench b) {
        told(all, b, "run", 2);
        for (int loop = 0; loop < 3; loop++) {
            told(all, b, "output", loop);
            told(all, b, "setpoint", loop);
            told(all, b, "measure", loop);
        }
    }

    private static void told(StringBuilder all, Bench b, String call, int... a) {
        all.append(call).append(a[0]).append('=').append(b.ask(call, a)).append(' ');
    }

    private static Bench begun(String sentence, Consumer<Bench> start) {
        Bench b = new Bench(sentence);
        start.accept(b);
        return b;
    }

    /** Told by the first place that differs, not by all of two long texts. */
    private static void same(String what, String got, String want) {
        String[] ones = got.split(" ");
        String[] others = want.split(" ");
        for (int n = 0; n < Math.min(ones.length, others.length); n++) {
            if (!ones[n].equals(others[n])) {
                Bench.expect(what, ones[n], others[n]);
                return;
            }
        }
        Bench.expect(what, "" + ones.length, "" + others.length);
    }
}
