/** Promises 2, 3 and 13: the plants. */
final class PlantTest {
    public static void main(String[] args) {
        allCoefficientsAct();
        longestDeadTime();
        deadTimeReachesBackOverChanges();
        roundsDownBelowZero();
        measureIsHeld();
        measuresStayWhenThePlantChanges();
        loadIsAddedAndKept();
        loadIsAddedAheadOfTheHolding();
        loopsAreApart();
        greatestProductsFit();
        Bench.finish();
    }

    private static void measures(Bench b, int loop, long... due) {
        for (long want : due) {
            b.ask("run", 1);
            b.due(want, "measure", loop);
        }
    }

    private static void allCoefficientsAct() {
        Bench b = new Bench("promise 2, a1, a2, b and dead time");
        b.done("setPlant", 0, 500, -250, 1000, 2);
        b.due(0, "setHand", 0, 10000);
        measures(b, 0, 0, 0, 10000, 15000, 15000, 13750);
    }

    private static void longestDeadTime() {
        Bench b = new Bench("promise 2, dead time 10");
        b.done("setPlant", 1, 0, 0, 1000, 10);
        b.due(0, "setHand", 1, 10000);
        b.due(1, "run", 1);
        b.due(10000, "setHand", 1, 3000);
        b.due(10, "run", 9);
        b.due(0, "measure", 1);
        measures(b, 1, 10000, 3000, 3000);
    }

    private static void deadTimeReachesBackOverChanges() {
        Bench b = new Bench("promise 2, a dead time set later");
        b.done("setPlant", 2, 0, 0, 1000, 0);
        for (int n = 1; n <= 12; n++) {
            b.ask("setHand", 2, 1000 * n);
            measures(b, 2, 1000L * n);
        }
        b.done("setPlant", 2, 0, 0, 1000, 10);
        measures(b, 2, 3000);
        b.done("setPlant", 2, 0, 0, 1000, 4);
        measures(b, 2, 10000);
        b.done("setPlant", 2, 0, 0, 1000, 1);
        measures(b, 2, 12000);
    }

    private static void roundsDownBelowZero() {
        Bench b = new Bench("promise 13, rounding");
        b.done("setPlant", 0, 0, 0, -1, 0);
        b.due(0, "setHand", 0, 1);
        measures(b, 0, -1);
        b.due(1, "setHand", 0, 1000);
        measures(b, 0, -1);
        b.due(1000, "setHand", 0, 1001);
        measures(b, 0, -2);
        b.done("setPlant", 0, 0, 0, 1, 0);
        measures(b, 0, 1);
        b.due(1001, "setHand", 0, 1999);
        measures(b, 0, 1);
        // The three products are rounded together, not each by itself.
        b.done("setPlant", 0, 500, 500, 0, 0);
        measures(b, 0, 1);
    }

    private static void measureIsHeld() {
        Bench b = new Bench("promise 13, holding");
        b.done("setPlant", 0, 2000, 0, 2000, 0);
        b.due(0, "setHand", 0, 100000);
        measures(b, 0, 200000, 600000, 1000000, 1000000);
        b.done("setPlant", 0, 1000, 0, -2000, 0);
        measures(b, 0, 800000, 600000, 400000, 200000, 0, -200000, -400000, -600000, -800000, -1000000, -1000000);
    }

    private static void measuresStayWhenThePlantChanges() {
        Bench b = new Bench("promise 2, measures stay");
        b.due(0, "setHand", 0, 5000);
        measures(b, 0, 1000, 1800);
        b.done("setPlant", 0, 0, 1000, 0, 0);
        b.due(1800, "measure", 0);
        measures(b, 0, 1000, 1800, 1000);
    }

    private static void loadIsAddedAndKept() {
        Bench b = new Bench("promise 3, load");
        b.due(0, "setLoad", 0, -500);
        b.due(-500, "setLoad", 0, 10000);
        b.due(0, "measure", 0);
        measures(b, 0, 10000, 18000);
        b.done("setPlant", 0, 0, 0, 0, 0);
        measures(b, 0, 10000);
        b.due(10000, "setLoad", 0, -10000);
        measures(b, 0, -10000);
        b.due(-10000, "setLoad", 0, 0);
        measures(b, 0, 0);
    }

    private static void loadIsAddedAheadOfTheHolding() {
        Bench b = new Bench("promise 3, load and holding");
        b.done("setLimits", 0, -1000000, 1000000);
        b.done("setPlant", 0, 0, 0, 2000, 0);
        b.due(0, "setHand", 0, 1000000);
        b.due(0, "setLoad", 0, -10000);
        measures(b, 0, 1000000);
        b.done("setPlant", 0, 0, 0, 1000, 0);
        measures(b, 0, 990000);
        b.due(-10000, "setLoad", 0, 1);
        measures(b, 0, 1000000);
        b.due(1000000, "setHand", 0, -1000000);
        measures(b, 0, -999999);
        b.due(1, "setLoad", 0, -1);
        measures(b, 0, -1000000);
    }

    private static void loopsAreApart() {
        Bench b = new Bench("promises 2 and 3, only the loop that is named");
        b.done("setPlant", 1, 0, 0, 1000, 0);
        b.due(0, "setLoad", 2, 77);
        for (int loop = 0; loop < 3; loop++) {
            b.due(0, "setHand", loop, 1000);
        }
        b.due(1, "run", 1);
        b.due(200, "measure", 0);
        b.due(1000, "measure", 1);
        b.due(277, "measure", 2);
    }

    private static void greatestProductsFit() {
        Bench b = new Bench("promise 13, the greatest products");
        b.done("setLimits", 0, -1000000, 1000000);
        b.due(0, "setHand", 0, 1000000);
        b.done("setPlant", 0, 2000, 1000, 2000, 0);
        measures(b, 0, 1000000, 1000000, 1000000);
        b.done("setPlant", 0, -2000, -1000, -2000, 0);
        measures(b, 0, -1000000);
        b.done("setPlant", 0, 2000, -1000, 2000, 0);
        measures(b, 0, -1000000);
    }
}
