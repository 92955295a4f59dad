import java.util.Arrays;

/** A ControlBench whose calls are asked by name, and whose answers are held against those that are due. */
final class Bench {
    static final String INDEX = "throws IndexOutOfBoundsException";
    static final String ARGUMENT = "throws IllegalArgumentException";
    static final String STATE = "throws IllegalStateException";
    static final String DONE = "done";

    private static int wrong = 0;

    private final ControlBench bench = new ControlBench();
    private final String title;
    private int calls = 0;

    Bench(String title) {
        this.title = title;
    }

    /** The answer is due to be this number (a boolean counts 1 or 0). */
    void due(long want, String call, int... a) {
        answerDue(Long.toString(want), call, a);
    }

    /** The call is due to end without an answer and without an exception. */
    void done(String call, int... a) {
        answerDue(DONE, call, a);
    }

    void refused(String exception, String call, int... a) {
        answerDue(exception, call, a);
    }

    void answerDue(String want, String call, int... a) {
        calls++;
        expect(title + ", call " + calls + ": " + call + Arrays.toString(a), ask(call, a), want);
    }

    /** All that the object tells of itself without being changed. */
    String signals() {
        StringBuilder all = new StringBuilder();
        for (int loop = 0; loop < 3; loop++) {
            for (String call : new String[] {"measure", "output", "outputByIncrements", "setpoint", "integral",
                "mode", "wasStarved", "held", "experiment", "period", "swing", "ultimateGain"}) {
                all.append(call).append(loop).append('=').append(ask(call, loop)).append(' ');
            }
            for (int which = 0; which < 3; which++) {
                all.append("gain").append(which).append('=').append(ask("gain", loop, which)).append(' ');
                all.append(ask("proposed", loop, 0, which)).append(' ').append(ask("proposed", loop, 1, which));
                all.append(' ');
            }
        }
        return all.toString();
    }

    static void expect(String what, String got, String want) {
        if (!got.equals(want)) {
            wrong++;
            System.out.println(what + " answered " + got + ", due is " + want);
        }
    }

    static void finish() {
        if (wrong != 0) {
            System.out.println(wrong + " answers are not as due");
            System.exit(1);
        }
    }

    String ask(String call, int... a) {
        try {
            return answer(call, a);
        } catch (RuntimeException e) {
            return "throws " + e.getClass().getSimpleName();
        }
    }

    private String answer(String call, int[] a) {
        switch (call) {
            case "setPlant": bench.setPlant(a[0], a[1], a[2], a[3], a[4]); return DONE;
            case "setLoad": return "" + bench.setLoad(a[0], a[1]);
            case "setGains": return "" + bench.setGains(a[0], a[1], a[2], a[3]);
            case "addPoint": return "" + bench.addPoint(a[0], a[1], a[2], a[3], a[4]);
            case "setLimits": bench.setLimits(a[0], a[1], a[2]); return DONE;
            case "setGuard": return "" + bench.setGuard(a[0], a[1], a[2]);
            case "setSetpoint": return "" + bench.setSetpoint(a[0], a[1]);
            case "setHand": return "" + bench.setHand(a[0], a[1]);
            case "setTies": bench.setTies(a[0], a[1] != 0, a[2] != 0); return DONE;
            case "setMode": return "" + bench.setMode(a[0], a[1]);
            case "run": return "" + bench.run(a[0]);
            case "startRelay": bench.startRelay(a[0], a[1], a[2]); return DONE;
            case "gain": return "" + bench.gain(a[0], a[1]);
            case "proposed": return "" + bench.proposed(a[0], a[1], a[2]);
            default: return signal(call, a[0]);
        }
    }

    private String signal(String call, int loop) {
        switch (call) {
            case "measure": return "" + bench.measure(loop);
            case "output": return "" + bench.output(loop);
            case "outputByIncrements": return "" + bench.outputByIncrements(loop);
            case "setpoint": return "" + bench.setpoint(loop);
            case "integral": return "" + bench.integral(loop);
            case "mode": return "" + bench.mode(loop);
            case "wasStarved": return bench.wasStarved(loop) ? "1" : "0";
            case "held": return "" + bench.held(loop);
            case "experiment": return "" + bench.experiment(loop);
            case "period": return "" + bench.period(loop);
            case "swing": return "" + bench.swing(loop);
            case "ultimateGain": return "" + bench.ultimateGain(loop);
            default: return "no such call";
        }
    }
}
