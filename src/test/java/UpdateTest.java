/** Promise 21: update. */
public final class UpdateTest {
    private static final Check check = new Check();
    private static final long STEP = 536870912L;
    private static final long REFUSE = 4294967296000L;

    public static void main(String[] args) {
        refusesWithoutAgreement();
        stepsBeyondTheEdge();
        stepForgets();
        stepLeavesPolls();
        stepEndsTheSlew();
        refusesFarOnes(true);
        refusesFarOnes(false);
        refusedUpdateKeepsExpectedTimes();
        stepsFarTheFirstTime();
        combinedRoundsDown();
        combinedIsOfSurvivors();
        slewIsReplaced();
        slewKeepsTheRest();
        pollsGrowAtTheEdge();
        pollsGrowByJitter();
        pollsOfSurvivorsGrow();
        pollsOfAllShrink();
        check.end();
    }

    private static void refusesWithoutAgreement() {
        StrataClient x = Scene.client();
        check.refusedUnchanged("update without samples", x, IllegalStateException.class, x::update);
        StrataClient y = Scene.clientWith(10, 90000000);
        check.refusedUnchanged("update without majority", y, IllegalStateException.class, y::update);
        StrataClient z = Scene.clientWith(10, 10 + 2 * Scene.LEAST_DISTANCE);
        check.refusedUnchanged("update without survivors", z, IllegalStateException.class, z::update);
        check.refused("nor with the clock set", IllegalStateException.class, () -> {
            StrataClient w = Scene.clientWith(10);
            w.update();
            Scene.kiss(w, 0, Scene.DENY);
            w.update();
        });
    }

    private static void stepsBeyondTheEdge() {
        long[] signs = {1, -1};
        for (long sign : signs) {
            StrataClient x = Scene.clientWith(sign * STEP);
            check.due("update at the edge", x.update(), StrataClient.SLEWED);
            check.due("slew", x.slew(), sign * STEP);
            check.due("LOCAL", x.local(), 1000);
            check.due("samples", x.samples(0), 1);
            StrataClient y = Scene.clientWith(sign * (STEP + 1));
            check.due("update beyond the edge", y.update(), StrataClient.STEPPED);
            check.due("slew", y.slew(), 0);
            check.due("LOCAL", y.local(), 1000 + sign * (STEP + 1));
        }
    }

    private static void stepForgets() {
        StrataClient x = Scene.clientWith(STEP + 1, STEP + 1, STEP + 1);
        Scene.kiss(x, 3, Scene.DENY);
        x.send(4);
        x.send(0);
        x.send(2);
        check.due("update", x.update(), StrataClient.STEPPED);
        String none = " 6 0 none none none none";
        check.due("all after a step", Scene.answers(x), "local " + (1001 + STEP) + " slew 0 | 0" + none + " | 0" + none
            + " | 0" + none + " | 256" + none + " | 0" + none + " | 0 none none 0 none");
        for (int s = 0; s < 5; s++) {
            int server = s;
            check.refused("echo", IllegalStateException.class, () -> x.echo(server, 1, 1));
        }
        check.due("a sample after a step", Scene.take(x, 1, 70), StrataClient.SAMPLE);
        check.due("it is the only one", x.samples(1), 1);
        check.due("its jitter", x.jitter(1), 0);
        check.due("its reach", x.reach(1), 1);
        check.due("its age", x.distance(1), Scene.LEAST_DISTANCE);
    }

    private static void stepLeavesPolls() {
        StrataClient x = Scene.client();
        Scene.kiss(x, 2, Scene.RATE);
        Scene.take(x, 0, STEP + 1);
        x.update();
        check.due("poll of one that rated", x.poll(2), 7);
        check.due("poll of the survivor", x.poll(0), 6);
    }

    private static void stepEndsTheSlew() {
        StrataClient x = Scene.clientWith(5000);
        x.update();
        check.due("slew", x.slew(), 5000);
        Scene.take(x, 1, STEP + 1, 0);
        Scene.take(x, 2, STEP + 1, 0);
        check.due("update", x.update(), StrataClient.STEPPED);
        check.due("slew after a step", x.slew(), 0);
        long before = x.local();
        x.run(1L << 30);
        check.due("LOCAL gains nothing then", x.local(), before + (1L << 30));
    }

    private static void refusesFarOnes(boolean slewedBefore) {
        long[] signs = {1, -1};
        for (long sign : signs) {
            StrataClient x = Scene.clientWith(slewedBefore ? 5 : REFUSE * 2);
            x.update();
            Scene.take(x, 1, sign * (REFUSE + 1));
            Scene.take(x, 2, sign * (REFUSE + 1));
            check.refusedUnchanged("a far update", x, UnsupportedOperationException.class, x::update);
            StrataClient y = Scene.clientWith(slewedBefore ? 5 : REFUSE * 2);
            y.update();
            Scene.take(y, 1, sign * REFUSE);
            Scene.take(y, 2, sign * REFUSE);
            long before = y.local();
            check.due("the farthest update", y.update(), StrataClient.STEPPED);
            check.due("LOCAL", y.local(), before + sign * REFUSE);
        }
    }

    private static void refusedUpdateKeepsExpectedTimes() {
        StrataClient x = Scene.clientWith(5);
        x.update();
        Scene.take(x, 1, REFUSE + 1);
        Scene.take(x, 2, REFUSE + 1);
        x.send(4);
        check.refused("a far update", UnsupportedOperationException.class, x::update);
        x.echo(4, 3, 3);
        check.due("receive", x.receive(4), StrataClient.SAMPLE);
    }

    private static void stepsFarTheFirstTime() {
        long[] far = {REFUSE + 1, -REFUSE - 1, 1L << 60, -(1L << 60)};
        for (long c : far) {
            StrataClient x = Scene.clientWith(c);
            check.due("the first update by " + c, x.update(), StrataClient.STEPPED);
            check.due("LOCAL", x.local(), 1000 + c);
            Scene.take(x, 0, c);
            check.refusedUnchanged("the second by " + c, x, UnsupportedOperationException.class, x::update);
        }
        StrataClient z = Scene.clientWith(1L << 50, 7);
        check.refused("no majority", IllegalStateException.class, z::update);
        Scene.kiss(z, 1, Scene.DENY);
        check.due("a refused update did not set the clock", z.update(), StrataClient.STEPPED);
    }

    private static void combinedRoundsDown() {
        combined("10 and 11", 10, 10, 11);
        combined("-10 and -11", -11, -10, -11);
        combined("1, 1 and 2", 1, 1, 1, 2);
        combined("-1, -1 and -2", -2, -1, -1, -2);
        combined("-1, 0 and 0", -1, -1, 0, 0);
        combined("-1 and 1", 0, -1, 1);
    }

    private static void combinedIsOfSurvivors() {
        combined("one leaves", 13, 10, 13, 16, 5000);
        combined("two leave", 13, 5000, 10, 13, 6000, 16);
        combined("one lies", 15, 10, 90000000, 20);
    }

    private static void combined(String what, long want, long... offsets) {
        StrataClient x = Scene.clientWith(offsets);
        check.due(what + ": update", x.update(), StrataClient.SLEWED);
        check.due(what + ": slew", x.slew(), want);
    }

    private static void slewIsReplaced() {
        StrataClient x = Scene.clientWith(5000);
        x.update();
        x.run(2048 * 10);
        check.due("slew", x.slew(), 4990);
        check.due("update again", x.update(), StrataClient.SLEWED);
        check.due("slew is not added", x.slew(), 5000);
    }

    private static void slewKeepsTheRest() {
        StrataClient x = Scene.clientWith(50, 60);
        x.send(3);
        x.update();
        check.due("LOCAL", x.local(), 1000);
        check.due("samples", x.samples(0), 1);
        check.due("reach", x.reach(1), 1);
        x.echo(3, 70, 70);
        check.due("the expected time stays", x.receive(3), StrataClient.SAMPLE);
    }

    private static void pollsGrowAtTheEdge() {
        long[][] rows = {{4096, 7}, {-4096, 7}, {4097, 5}, {-4097, 5}, {0, 7}, {16384, 5}};
        for (long[] row : rows) {
            StrataClient x = Scene.clientWith(row[0]);
            x.update();
            check.due("poll after " + row[0], x.poll(0), row[1]);
        }
    }

    /** The peer is server 1; the jitter of server 0 does not count. */
    private static void pollsGrowByJitter() {
        long[][] rows = {{4 * 3000 + 4096, 7}, {4 * 3000 + 4097, 5}, {-4 * 3000 - 4096, 7}, {-4 * 3000 - 4097, 5}};
        for (long[] row : rows) {
            StrataClient x = Scene.client();
            Scene.take(x, 1, row[0] + 3000, 8192);
            Scene.take(x, 1, row[0]);
            x.put(Scene.STRATUM_AT, 2, 1);
            Scene.take(x, 0, row[0] + 20000, 8192);
            Scene.take(x, 0, row[0]);
            check.due("peer", x.peer(), 1);
            x.update();
            check.due("slew", x.slew(), row[0]);
            check.due("poll after " + row[0], x.poll(1), row[1]);
            check.due("poll of the other", x.poll(0), row[1]);
        }
    }

    private static void pollsOfSurvivorsGrow() {
        StrataClient x = Scene.clientWith(50, 3000, 60, 40, 90000000);
        check.due("survivors", x.survivors(), 13);
        for (int i = 1; i <= 6; i++) {
            x.update();
            long grown = Math.min(10, 6 + i);
            check.due("poll of a survivor", x.poll(0), grown);
            check.due("poll of one that left", x.poll(1), 6);
            check.due("poll of a survivor", x.poll(2), grown);
            check.due("poll of a survivor", x.poll(3), grown);
            check.due("poll of one that lies", x.poll(4), 6);
        }
    }

    private static void pollsOfAllShrink() {
        StrataClient x = Scene.client();
        Scene.kiss(x, 3, Scene.DENY);
        for (int i = 0; i < 3; i++) {
            Scene.kiss(x, 2, Scene.RATE);
        }
        Scene.take(x, 0, 20000);
        Scene.take(x, 1, 90000000);
        Scene.take(x, 4, 20000);
        for (int i = 1; i <= 4; i++) {
            check.due("update", x.update(), StrataClient.SLEWED);
            for (int s = 0; s < 5; s++) {
                check.due("poll(" + s + ")", x.poll(s), Math.max(4, (s == 2 ? 9 : 6) - i));
            }
        }
    }
}
