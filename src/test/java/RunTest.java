/** Promise 12: samples. */
final class RunTest {
    public static void main(String[] args) {
        answersHowManyHaveGoneBy();
        manyAreAsManySingleOnes();
        plantsGoOnBehindAllTurns();
        Bench.finish();
    }

    private static void answersHowManyHaveGoneBy() {
        Bench b = new Bench("promise 12, answers");
        b.due(1, "run", 1);
        b.due(201, "run", 200);
        b.refused(Bench.ARGUMENT, "run", 0);
        b.refused(Bench.ARGUMENT, "run", 201);
        b.refused(Bench.ARGUMENT, "run", -1);
        b.refused(Bench.ARGUMENT, "run", Integer.MIN_VALUE);
        b.refused(Bench.ARGUMENT, "run", Integer.MAX_VALUE);
        b.due(203, "run", 2);
        for (int n = 1; n <= 500; n++) {
            b.due(203 + 200 * n, "run", 200);
        }
    }

    private static void manyAreAsManySingleOnes() {
        Bench many = twin("promise 12, many at once");
        Bench single = twin("promise 12, one by one");
        many.due(150, "run", 150);
        for (int n = 1; n <= 150; n++) {
            single.due(n, "run", 1);
        }
        Bench.expect("promise 12, many as single ones", many.signals(), single.signals());
    }

    private static Bench twin(String title) {
        Bench b = new Bench(title);
        b.done("setPlant", 0, 900, 0, 100, 3);
        b.done("setTies", 1, 0, 1);
        b.due(0, "setMode", 0, 1);
        b.due(0, "setMode", 1, 2);
        b.due(0, "setMode", 2, 1);
        b.due(0, "setSetpoint", 0, 9000);
        b.due(0, "setSetpoint", 2, 500);
        b.done("startRelay", 2, 300, 5);
        return b;
    }

    private static void plantsGoOnBehindAllTurns() {
        Bench b = new Bench("promise 12, the order in a sample");
        b.done("setPlant", 0, 0, 0, 1000, 0);
        b.done("setPlant", 1, 0, 0, 1000, 0);
        b.done("setTies", 1, 1, 0);
        b.due(0, "setHand", 0, 50);
        b.due(0, "setHand", 1, 60);
        b.due(1, "run", 1);
        b.due(0, "setpoint", 1);
        b.due(60, "measure", 1);
        b.due(2, "run", 1);
        b.due(60, "setpoint", 1);
    }
}
