/** Promises 1 to 4 (a new object, run, local, slew), and how long an object is used. */
public final class ClockTest {
    private static final Check check = new Check();
    private static final long[] SIGNS = {1, -1};

    public static void main(String[] args) {
        check.all(
            ClockTest::allIsAsAtFirst,
            ClockTest::nothingIsExpectedAtFirst,
            ClockTest::nobodyIsDeniedAtFirst,
            ClockTest::theClockWasNeverSet,
            ClockTest::thePacketIsZeroAtFirst,
            ClockTest::newObjectsAreApart,
            ClockTest::runGrowsLocal,
            ClockTest::runTakesAllOfTheSlew,
            ClockTest::runTakesNotMore,
            ClockTest::runRoundsDown,
            ClockTest::runTakesParts,
            ClockTest::runTakesTheGreatestSlewAtOnce,
            ClockTest::runAtItsEdges,
            ClockTest::runRefuses,
            ClockTest::theLastCallHolds);
        check.end();
    }

    private static void allIsAsAtFirst() {
        check.about("Promise 1: All is as at first");
        String none = " NoSuchElementException";
        String server = " | 0 6 0" + none.repeat(4);
        check.due("a new object", Scene.answers(new StrataClient()),
            "local 0 slew 0" + server.repeat(5) + " | 0" + none.repeat(2) + " 0" + none);
        check.refused("a new object's update", IllegalStateException.class, () -> new StrataClient().update());
    }

    /** No expected time is not the expected time 0. */
    private static void nothingIsExpectedAtFirst() {
        check.about("Terms: perhaps an EXPECTED time (none at first)");
        for (int s = 0; s < 5; s++) {
            int server = s;
            StrataClient x = new StrataClient();
            check.refused("echo", IllegalStateException.class, () -> x.echo(server, 1, 1));
            x.put(Scene.FLAGS_AT, 36, 1);
            x.put(Scene.T3_AT, 5, 8);
            check.refused("receive with the origin 0", IllegalStateException.class, () -> x.receive(server));
            check.due("send", x.send(s), 0);
            check.due("receive when 0 is expected", x.receive(s), StrataClient.KISS);
        }
    }

    private static void nobodyIsDeniedAtFirst() {
        check.about("Terms: A server is DENIED or not (not at first)");
        StrataClient x = new StrataClient();
        for (int s = 0; s < 5; s++) {
            check.due("send", x.send(s), 0);
            check.due("reach", x.reach(s), 0);
        }
    }

    private static void theClockWasNeverSet() {
        check.about("Promise 1: the clock was never set");
        for (long sign : SIGNS) {
            StrataClient x = Scene.clientWith(sign * 4294967296001L);
            check.due("the first update, however far", x.update(), StrataClient.STEPPED);
        }
    }

    private static void thePacketIsZeroAtFirst() {
        check.about("Terms: THE PACKET is a row of 48 bytes, all 0 at first");
        StrataClient x = new StrataClient();
        x.send(0);
        x.put(Scene.T3_AT + 7, 2, 1);
        check.refused("receive, byte 0 is 0", IllegalArgumentException.class, () -> x.receive(0));
        x.put(Scene.FLAGS_AT, 36, 1);
        x.put(Scene.T3_AT + 7, 0, 1);
        check.refused("receive, T3 is 0", IllegalArgumentException.class, () -> x.receive(0));
        x.put(Scene.T3_AT + 7, 2, 1);
        check.due("receive, the stratum is 0 and the origin too", x.receive(0), StrataClient.KISS);
        check.due("a code of zeros denies nothing", x.reach(0), 0);
        check.due("a code of zeros leaves the poll", x.poll(0), 6);
        x.send(0);
        x.put(Scene.STRATUM_AT, 1, 1);
        check.due("receive", x.receive(0), StrataClient.SAMPLE);
        check.due("offset by the T2 0 and the T3 2", x.offset(0), 1);
        check.due("root delay and root dispersion are 0", x.distance(0), Scene.LEAST_DISTANCE);
    }

    private static void newObjectsAreApart() {
        check.about("");
        StrataClient x = Scene.busy();
        StrataClient y = Scene.busy();
        String due = Scene.everything(x);
        check.due("another object's state is its own", Scene.everything(y), due);
    }

    private static void runGrowsLocal() {
        check.about("Promise 2: LOCAL grows by d");
        StrataClient x = new StrataClient();
        x.run(5);
        check.due("LOCAL", x.local(), 5);
        x.run(70000);
        check.due("LOCAL", x.local(), 70005);
        check.due("no slew comes of it", x.slew(), 0);
    }

    private static void runTakesAllOfTheSlew() {
        check.about("Promise 2: a part of the slew, which loses this part: all of it");
        run(10, 2048 * 10, 10);
        run(10, 2048 * 11, 10);
        run(10, 1L << 40, 10);
        run(1, 2048, 1);
        run(0, 1L << 40, 0);
    }

    private static void runTakesNotMore() {
        check.about("Promise 2: but not more than d / 2048");
        run(10, 2048 * 9, 9);
        run(10, 2048, 1);
        run(10, 0, 0);
        run(500000000, 2048L * 499999999, 499999999);
    }

    private static void runRoundsDown() {
        check.about("Promise 2: d / 2048 rounded down, up or down");
        run(10, 1, 0);
        run(10, 2047, 0);
        run(10, 2049, 1);
        run(10, 4095, 1);
        run(10, 2048 * 10 - 1, 9);
        run(10, 2048 * 10 + 1, 10);
    }

    /** A run of d units with this slew, and with its opposite. */
    private static void run(long slew, long d, long part) {
        for (long sign : SIGNS) {
            StrataClient x = Scene.clientWith(sign * slew);
            x.update();
            check.due("slew after update", x.slew(), sign * slew);
            x.run(d);
            check.due("slew " + sign * slew + " after run(" + d + ")", x.slew(), sign * (slew - part));
            check.due("LOCAL after run(" + d + ")", x.local(), 1000 + d + sign * part);
        }
    }

    private static void runTakesParts() {
        check.about("Promise 2: which loses this part");
        for (long sign : SIGNS) {
            StrataClient x = Scene.clientWith(sign * 700000);
            x.update();
            x.run(2048 * 1000);
            x.run(2048 * 2000);
            check.due("slew after two parts", x.slew(), sign * 697000);
            check.due("LOCAL after two parts", x.local(), 1000 + 2048 * 3000 + sign * 3000);
            x.run(1L << 40);
            x.run(1L << 40);
            check.due("slew after all of it", x.slew(), 0);
            check.due("LOCAL after all of it", x.local(), 1000 + 2048 * 3000 + (1L << 41) + sign * 700000);
        }
    }

    private static void runTakesTheGreatestSlewAtOnce() {
        check.about("Promise 2: not more than d / 2048 rounded down, for the greatest slew and the greatest d");
        run(536870912, 1L << 40, 536870912);
        run(536870912, (1L << 40) - 1, 536870911);
        run(536870912, (1L << 40) - 2048, 536870911);
    }

    private static void runAtItsEdges() {
        check.about("Promise 2: 0 .. 2^40");
        StrataClient x = new StrataClient();
        x.run(0);
        check.due("LOCAL after run(0)", x.local(), 0);
        x.run(1L << 40);
        check.due("LOCAL after run(2^40)", x.local(), 1L << 40);
    }

    private static void runRefuses() {
        check.about("Promise 2: IllegalArgumentException when d is not 0 .. 2^40");
        long[] wrong = {-1, (1L << 40) + 1, Long.MIN_VALUE, Long.MAX_VALUE, -(1L << 40), -2048, 1L << 41, 1L << 62};
        for (long d : wrong) {
            check.refusedUnchanged("run(" + d + ")", IllegalArgumentException.class, Scene::busy, x -> x.run(d));
        }
    }

    private static void theLastCallHolds() {
        check.about("What it is: An object is used for at most 512 calls");
        StrataClient x = new StrataClient();
        x.run(1000);
        x.put(Scene.STRATUM_AT, 1, 1);
        for (int i = 0; i < 102; i++) {
            check.due("send", x.send(i % 5), 1000);
            x.echo(i % 5, i, i);
            check.due("receive", x.receive(i % 5), StrataClient.SAMPLE);
            check.due("offset", x.offset(i % 5), i);
            check.due("samples after " + (5 * i + 7) + " calls", x.samples(i % 5), Math.min(8, i / 5 + 1));
        }
    }
}
