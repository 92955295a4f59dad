/** Which exception comes first, and that a call that throws has changed nothing. */
final class RefusalTest {
    public static void main(String[] args) {
        indexComesFirst();
        argumentComesAheadOfState();
        for (int state = 0; state < 6; state++) {
            nothingChanges(state);
        }
        Bench.finish();
    }

    private static void indexComesFirst() {
        Bench b = new Bench("the index first");
        b.refused(Bench.INDEX, "setPlant", 3, 9999, 9999, 9999, 99);
        b.refused(Bench.INDEX, "setLoad", 3, 99999);
        b.refused(Bench.INDEX, "setGains", 3, 99999, 99999, 99999);
        b.refused(Bench.INDEX, "addPoint", 3, 9999999, 99999, 99999, 99999);
        b.refused(Bench.INDEX, "setLimits", 3, 5, 4);
        b.refused(Bench.INDEX, "setGuard", 3, 3, 1001);
        b.refused(Bench.INDEX, "setSetpoint", 3, 1000001);
        b.refused(Bench.INDEX, "setHand", -1, 1000001);
        b.refused(Bench.INDEX, "setTies", -1, 1, 1);
        b.refused(Bench.INDEX, "setMode", -1, 3);
        b.refused(Bench.INDEX, "gain", -1, 3);
        b.refused(Bench.INDEX, "startRelay", -1, 0, -1);
        b.refused(Bench.INDEX, "proposed", -1, 2, 3);
        b.refused(Bench.INDEX, "proposed", 0, 2, 3);
        b.refused(Bench.INDEX, "proposed", 3, 2, 0);
    }

    private static void argumentComesAheadOfState() {
        Bench b = prepared("the argument ahead of the state", 4);
        b.refused(Bench.ARGUMENT, "setGains", 0, 20001, 0, 0);
        b.refused(Bench.STATE, "setGains", 0, 20000, 0, 0);
        b.refused(Bench.ARGUMENT, "setMode", 0, 3);
        b.refused(Bench.ARGUMENT, "setMode", 0, -1);
        b.refused(Bench.STATE, "setMode", 0, 2);
        b.refused(Bench.ARGUMENT, "startRelay", 0, 0, 0);
        b.refused(Bench.STATE, "startRelay", 0, 1, 0);
        b.refused(Bench.ARGUMENT, "setHand", 0, 1000001);
        b.refused(Bench.STATE, "setHand", 0, 1000000);
        b.refused(Bench.ARGUMENT, "proposed", 0, 2, 0);
        b.refused(Bench.STATE, "proposed", 0, 1, 0);
        Bench c = prepared("the argument ahead of the state, cascade", 3);
        c.refused(Bench.ARGUMENT, "setSetpoint", 1, -1000001);
        c.refused(Bench.STATE, "setSetpoint", 1, -1000000);
        c.refused(Bench.STATE, "startRelay", 1, 1, 0);
        c.refused(Bench.STATE, "setTies", 1, 1, 0);
        Bench d = prepared("the argument ahead of the state, points", 5);
        d.refused(Bench.ARGUMENT, "addPoint", 0, 5000, 1, 1, 1);
        d.refused(Bench.ARGUMENT, "addPoint", 0, 1000001, 1, 1, 1);
        d.refused(Bench.ARGUMENT, "addPoint", 0, 6000, 1, 5001, 1);
        d.refused(Bench.STATE, "addPoint", 0, 6000, 1, 5000, 1);
        d.refused(Bench.STATE, "startRelay", 1, 1, 0);
        d.refused(Bench.ARGUMENT, "startRelay", 1, 1, 100001);
    }

    /** 0 new, 1 in hand, 2 automatic, 3 cascade, 4 relay, 5 a full schedule. */
    private static Bench prepared(String title, int state) {
        Bench b = new Bench(title);
        if (state == 0) {
            return b;
        }
        b.done("setTies", 1, 1, 1);
        b.due(0, "setSetpoint", 0, 4000);
        b.due(0, "setHand", 0, 3000);
        b.due(0, "setHand", 2, 2000);
        b.due(0, "setGuard", 0, 1, 300);
        b.due(4, "run", 4);
        if (state >= 2) {
            b.due(0, "setMode", 0, 1);
        }
        if (state == 3) {
            b.due(0, "setMode", 1, 2);
        }
        if (state == 4) {
            b.done("startRelay", 0, 700, 3);
        }
        for (int n = 1; state == 5 && n <= 5; n++) {
            b.due(n, "addPoint", 0, 1000 * n, 900 + n, 90 + n, n);
        }
        b.due(7, "run", 3);
        return b;
    }

    private static void nothingChanges(int state) {
        Bench asked = prepared("nothing has changed, state " + state, state);
        Bench twin = prepared("nothing has changed, twin of state " + state, state);
        for (int loop = -1; loop <= 3; loop++) {
            askWrongly(asked, loop);
        }
        askWhatTheStateForbids(asked, state);
        Bench.expect("signals, state " + state, asked.signals(), twin.signals());
        for (int n = 0; n < 6; n++) {
            Bench.expect("later answers, state " + state, later(asked, n), later(twin, n));
            Bench.expect("later signals, state " + state, asked.signals(), twin.signals());
        }
    }

    private static void askWrongly(Bench b, int loop) {
        String wrong = loop < 0 || loop > 2 ? Bench.INDEX : Bench.ARGUMENT;
        b.refused(wrong, "setPlant", loop, 2001, 1, 1, 1);
        b.refused(wrong, "setPlant", loop, 1, 1001, 1, 1);
        b.refused(wrong, "setPlant", loop, 1, 1, -2001, 1);
        b.refused(wrong, "setPlant", loop, 1, 1, 1, 11);
        b.refused(wrong, "setLoad", loop, 10001);
        b.refused(wrong, "setGains", loop, 20001, 1, 1);
        b.refused(wrong, "setGains", loop, 1, 5001, 1);
        b.refused(wrong, "setGains", loop, 1, 1, 50001);
        b.refused(wrong, "addPoint", loop, 1000001, 1, 1, 1);
        b.refused(wrong, "addPoint", loop, 1000000, 20001, 1, 1);
        b.refused(wrong, "addPoint", loop, 1000000, 1, -5001, 1);
        b.refused(wrong, "addPoint", loop, 1000000, 1, 1, -50001);
        b.refused(wrong, "setLimits", loop, 1, 0);
        b.refused(wrong, "setLimits", loop, 1, 1000001);
        b.refused(wrong, "setLimits", loop, -1000001, 5);
        b.refused(wrong, "setGuard", loop, 2, 1001);
        b.refused(wrong, "setGuard", loop, 3, 7);
        b.refused(wrong, "setSetpoint", loop, 1000001);
        b.refused(wrong, "setHand", loop, 1000001);
        b.refused(wrong, "setMode", loop, 3);
        b.refused(wrong, "startRelay", loop, 100001, 1);
        b.refused(wrong, "startRelay", loop, 1, -1);
        b.refused(Bench.ARGUMENT, "run", 0);
        b.refused(Bench.ARGUMENT, "run", 201);
        b.refused(Bench.ARGUMENT, "setTies", 0, 1, 1);
    }

    private static void askWhatTheStateForbids(Bench b, int state) {
        if (state >= 2) {
            b.refused(Bench.STATE, "setHand", 0, 17);
        } else {
            b.refused(Bench.STATE, "startRelay", 0, 5, 5);
        }
        b.refused(Bench.STATE, "setMode", 0, 2);
        b.refused(Bench.STATE, "setMode", 2, 2);
        b.refused(Bench.STATE, "startRelay", 1, 5, 5);
        if (state == 3) {
            b.refused(Bench.STATE, "setSetpoint", 1, 17);
            b.refused(Bench.STATE, "setTies", 1, 0, 0);
        }
        if (state == 4) {
            b.refused(Bench.STATE, "setGains", 0, 1, 2, 3);
            b.refused(Bench.STATE, "setMode", 0, 1);
            b.refused(Bench.STATE, "startRelay", 0, 9, 9);
        }
        if (state == 5) {
            b.refused(Bench.STATE, "addPoint", 0, 6000, 1, 2, 3);
        }
    }

    /** Answers that tell of settings which no signal shows. */
    private static String later(Bench b, int n) {
        StringBuilder all = new StringBuilder(b.ask("run", 1 + n));
        for (int loop = 0; loop < 3; loop++) {
            all.append(' ').append(b.ask("setLoad", loop, 100 * n));
            all.append(' ').append(b.ask("setHand", loop, 500 * n));
            all.append(' ').append(b.ask("setSetpoint", loop, 4000 * n));
            all.append(' ').append(n == 3 ? b.ask("setGuard", loop, 2, 400) : "");
            all.append(' ').append(n == 4 ? b.ask("addPoint", loop, 900000, 1, 1, 1) : "");
            all.append(' ').append(n == 5 ? b.ask("setGains", loop, 100, 10, 5) : "");
        }
        return all.toString();
    }
}
