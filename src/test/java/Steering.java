/** Relay experiments on loop 0 that only the setpoint drives, while the load gives each next measure. */
final class Steering {
    static final int UP = 900000;
    static final int DOWN = -900000;

    private Steering() {
    }

    /** A loop whose next measure is its load, in an experiment with the band 0. */
    static Bench begun(String title, int height) {
        Bench b = new Bench(title);
        b.done("setPlant", 0, 0, 0, 0, 0);
        b.done("setLimits", 0, -1000000, 1000000);
        b.due(0, "setMode", 0, 1);
        b.done("startRelay", 0, height, 0);
        return b;
    }

    /** A sample with the relay driven up or down, behind which the measure is next. */
    static void steer(Bench b, int setpoint, int next) {
        b.ask("setSetpoint", 0, setpoint);
        b.ask("setLoad", 0, next);
        b.ask("run", 1);
    }

    /** Rises at the second, fourth, .. sample from now; the measure stays 0. */
    static void rise(Bench b, int times) {
        for (int n = 0; n < times; n++) {
            steer(b, DOWN, 0);
            steer(b, UP, 0);
        }
    }

    /** An experiment with the height, the period 2 and the swing, which is 10000 at the most. */
    static Bench told(String title, int height, int swing) {
        Bench b = begun(title, height);
        rise(b, 3);
        steer(b, DOWN, swing);
        // The measure of the fourth rise is not in the swing, so it comes one sample later.
        steer(b, DOWN, 0);
        steer(b, UP, 0);
        b.due(2, "experiment", 0);
        b.due(2, "period", 0);
        b.due(swing, "swing", 0);
        return b;
    }
}
