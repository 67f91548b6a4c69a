import java.util.function.Supplier;

/** Promise 21: update. */
public final class UpdateTest {
    private static final Check check = new Check();
    private static final long[] SIGNS = {1, -1};
    private static final long STEP = 536870912L;
    private static final long REFUSE = 4294967296000L;

    public static void main(String[] args) {
        check.all(
            UpdateTest::refusesWithoutAgreement,
            UpdateTest::refusesFarOnesWhenSet,
            UpdateTest::farOnesSetTheClockOnce,
            UpdateTest::refusedOnesDoNotSetTheClock,
            UpdateTest::combinedRoundsDown,
            UpdateTest::combinedIsOfSurvivors,
            UpdateTest::stepsBeyondTheEdge,
            UpdateTest::stepEndsTheSlew,
            UpdateTest::stepForgetsAll,
            UpdateTest::stepLeavesTheRest,
            UpdateTest::slewsUpToTheEdge,
            UpdateTest::slewIsReplaced,
            UpdateTest::slewKeepsTheRest,
            UpdateTest::pollsGrowUpToTheEdge,
            UpdateTest::pollsGrowByThePeersJitter,
            UpdateTest::pollsAtBothEdges,
            UpdateTest::pollsOfSurvivorsGrow,
            UpdateTest::pollsDoNotGrowBeyond,
            UpdateTest::pollsOfAllShrink,
            UpdateTest::pollsDoNotShrinkBelow);
        check.end();
    }

    private static void refusesWithoutAgreement() {
        check.about("Promise 21: IllegalStateException when the client does not agree");
        check.refusedUnchanged("nobody", IllegalStateException.class, Scene::client, StrataClient::update);
        check.refusedUnchanged("no majority", IllegalStateException.class, () -> Scene.clientWith(10, 90000000),
            StrataClient::update);
        check.refusedUnchanged("no survivors", IllegalStateException.class,
            () -> Scene.clientWith(10, 10 + 2 * Scene.LEAST_DISTANCE), StrataClient::update);
        check.refusedUnchanged("nobody any more", IllegalStateException.class, () -> {
            StrataClient x = Scene.clientWith(10);
            x.update();
            Scene.kiss(x, 0, Scene.DENY);
            return x;
        }, StrataClient::update);
    }

    private static void refusesFarOnesWhenSet() {
        check.about("Promise 21: UnsupportedOperationException when c without its sign is more than 4294967296000 "
            + "and the clock was set before");
        long[] first = {5, -5, STEP, STEP + 1, REFUSE + 1, -REFUSE - 1, 1L << 60};
        for (long before : first) {
            for (long sign : SIGNS) {
                check.refusedUnchanged("update by " + sign * (REFUSE + 1) + " after " + before,
                    UnsupportedOperationException.class, () -> setThenSampled(before, sign * (REFUSE + 1)),
                    StrataClient::update);
                check.refusedUnchanged("update by " + (sign << 60) + " after " + before,
                    UnsupportedOperationException.class, () -> setThenSampled(before, sign << 60), StrataClient::update);
                StrataClient x = setThenSampled(before, sign * REFUSE);
                long local = x.local();
                check.due("update by " + sign * REFUSE + " after " + before, x.update(), StrataClient.STEPPED);
                check.due("LOCAL", x.local(), local + sign * REFUSE);
            }
        }
    }

    /** The clock was set by one offset, and two more servers have another one. */
    private static StrataClient setThenSampled(long before, long offset) {
        StrataClient x = Scene.clientWith(before);
        x.update();
        Scene.take(x, 1, offset);
        Scene.take(x, 2, offset);
        x.send(4);
        return x;
    }

    private static void farOnesSetTheClockOnce() {
        check.about("Promise 21: and the clock was set before (not at the first time)");
        long[] far = {REFUSE + 1, -REFUSE - 1, 1L << 60, -(1L << 60)};
        for (long c : far) {
            StrataClient x = Scene.clientWith(c);
            check.due("the first update by " + c, x.update(), StrataClient.STEPPED);
            check.due("LOCAL", x.local(), 1000 + c);
            Scene.take(x, 0, c);
            check.refused("the second by " + c, UnsupportedOperationException.class, x::update);
            check.due("LOCAL", x.local(), 1000 + c);
        }
    }

    private static void refusedOnesDoNotSetTheClock() {
        check.about("Terms: a call that throws changes nothing (whether the clock was set)");
        StrataClient x = Scene.clientWith(1L << 50, 7);
        check.refused("no majority", IllegalStateException.class, x::update);
        Scene.kiss(x, 1, Scene.DENY);
        check.due("the first that sets the clock", x.update(), StrataClient.STEPPED);
        check.due("LOCAL", x.local(), 1000 + (1L << 50));
    }

    private static void combinedRoundsDown() {
        check.about("Terms: The COMBINED offset is the sum of the survivors' offsets divided by their number, "
            + "rounded down");
        combined("10 and 11", 10, 10, 11);
        combined("-10 and -11", -11, -10, -11);
        combined("1, 1 and 2", 1, 1, 1, 2);
        combined("1, 2 and 2", 1, 1, 2, 2);
        combined("-1, -1 and -2", -2, -1, -1, -2);
        combined("-1, -2 and -2", -2, -1, -2, -2);
        combined("-1, 0 and 0", -1, -1, 0, 0);
        combined("-1 and 1", 0, -1, 1);
        combined("-1 and 0", -1, -1, 0);
        combined("-7", -7, -7);
        for (long sign : SIGNS) {
            long far = sign << 60;
            StrataClient x = Scene.clientWith(far, far, far);
            check.due("update by three that are far", x.update(), StrataClient.STEPPED);
            check.due("LOCAL: the sum does not wrap", x.local(), 1000 + far);
        }
    }

    private static void combinedIsOfSurvivors() {
        check.about("Terms: the sum of the survivors' offsets divided by their number");
        combined("one leaves", 13, 10, 13, 16, 5000);
        combined("two leave", 13, 5000, 10, 13, 6000, 16);
        combined("one lies", 15, 10, 90000000, 20);
    }

    private static void combined(String what, long want, long... offsets) {
        StrataClient x = Scene.clientWith(offsets);
        check.due(what + ": update", x.update(), StrataClient.SLEWED);
        check.due(what + ": slew", x.slew(), want);
    }

    private static void stepsBeyondTheEdge() {
        check.about("Promise 21: When c without its sign is more than 536870912, LOCAL grows by c .. STEPPED");
        for (long sign : SIGNS) {
            StrataClient x = Scene.clientWith(sign * (STEP + 1));
            check.due("update beyond the edge", x.update(), StrataClient.STEPPED);
            check.due("slew", x.slew(), 0);
            check.due("LOCAL", x.local(), 1000 + sign * (STEP + 1));
            check.due("samples", x.samples(0), 0);
        }
    }

    private static void stepEndsTheSlew() {
        check.about("Promise 21: the slew becomes 0");
        for (long sign : SIGNS) {
            StrataClient x = Scene.clientWith(sign * 5000);
            x.update();
            check.due("slew", x.slew(), sign * 5000);
            Scene.take(x, 1, STEP + 1);
            Scene.take(x, 2, STEP + 1);
            check.due("update", x.update(), StrataClient.STEPPED);
            check.due("slew after a step", x.slew(), 0);
            check.due("LOCAL without the slew", x.local(), 1001 + STEP);
            x.run(1L << 30);
            check.due("LOCAL gains nothing then", x.local(), 1001 + STEP + (1L << 30));
        }
    }

    /** Server 1 lies, 3 is denied with samples, 4 was only asked: they are forgotten too. */
    private static void stepForgetsAll() {
        check.about("Promise 21: all expected times and samples are gone and all reaches become 0");
        StrataClient x = Scene.clientWith(STEP + 1, 7, STEP + 1, STEP + 1);
        Scene.kiss(x, 3, Scene.DENY);
        for (int s : new int[] {0, 1, 2, 4}) {
            x.send(s);
        }
        check.due("update", x.update(), StrataClient.STEPPED);
        for (int s = 0; s < 5; s++) {
            int server = s;
            check.due("reach(" + s + ")", x.reach(s), s == 3 ? 256 : 0);
            check.due("samples(" + s + ")", x.samples(s), 0);
            check.refused("echo(" + s + ", ..)", IllegalStateException.class, () -> x.echo(server, 1, 1));
            x.put(Scene.ORIGIN_AT, 1000, 8);
            check.refused("receive(" + s + ")", IllegalStateException.class, () -> x.receive(server));
        }
        check.due("candidates", x.candidates(), 0);
        check.due("a sample after a step", Scene.take(x, 1, 70), StrataClient.SAMPLE);
        check.due("it is the only one", x.samples(1), 1);
        check.due("its offset", x.offset(1), 70);
        check.due("its jitter", x.jitter(1), 0);
        check.due("its reach", x.reach(1), 1);
        check.due("its distance", x.distance(1), Scene.LEAST_DISTANCE);
    }

    private static void stepLeavesTheRest() {
        check.about("Promise 21: STEPPED (polls, denials and the packet stay)");
        StrataClient x = Scene.client();
        Scene.kiss(x, 2, Scene.RATE);
        Scene.kiss(x, 3, Scene.DENY);
        x.put(Scene.ROOT_DISPERSION_AT, 9, 4);
        Scene.take(x, 0, STEP + 1);
        x.update();
        check.due("poll of one that rated", x.poll(2), 7);
        check.due("poll of the survivor", x.poll(0), 6);
        check.due("poll of another", x.poll(1), 6);
        check.refused("send to the denied one", IllegalStateException.class, () -> x.send(3));
        Scene.take(x, 0, 3);
        check.due("distance by the packet that stayed", x.distance(0), 9 * 65536 + Scene.LEAST_DISTANCE);
    }

    private static void slewsUpToTheEdge() {
        check.about("Promise 21: Otherwise the slew becomes c .. SLEWED");
        for (long sign : SIGNS) {
            StrataClient x = Scene.clientWith(sign * STEP);
            check.due("update at the edge", x.update(), StrataClient.SLEWED);
            check.due("slew", x.slew(), sign * STEP);
            check.due("LOCAL", x.local(), 1000);
            check.due("samples", x.samples(0), 1);
        }
    }

    private static void slewIsReplaced() {
        check.about("Promise 21: Otherwise the slew becomes c");
        StrataClient x = Scene.clientWith(5000);
        x.update();
        x.run(2048 * 10);
        check.due("slew", x.slew(), 4990);
        check.due("update again", x.update(), StrataClient.SLEWED);
        check.due("slew is not added", x.slew(), 5000);
        StrataClient y = Scene.clientWith(5000);
        y.update();
        Scene.take(y, 1, 0);
        Scene.take(y, 0, 0);
        check.due("update by 0", y.update(), StrataClient.SLEWED);
        check.due("slew", y.slew(), 0);
    }

    private static void slewKeepsTheRest() {
        check.about("Promise 21: SLEWED (samples, reaches and expected times stay)");
        StrataClient x = Scene.clientWith(50, 60);
        x.send(3);
        x.update();
        check.due("LOCAL", x.local(), 1000);
        check.due("samples", x.samples(0), 1);
        check.due("reach", x.reach(1), 1);
        x.echo(3, 70, 70);
        check.due("the expected time stays", x.receive(3), StrataClient.SAMPLE);
    }

    private static void pollsGrowUpToTheEdge() {
        check.about("Promise 21: when c without its sign is at most 4 times the peer's jitter plus 4096 (jitter 0)");
        long[][] rows = {{0, 7}, {4095, 7}, {4096, 7}, {4097, 5}, {16383, 5}, {16384, 5}, {STEP, 5}};
        for (long[] row : rows) {
            for (long sign : SIGNS) {
                StrataClient x = Scene.clientWith(sign * row[0]);
                check.due("update by " + sign * row[0], x.update(), StrataClient.SLEWED);
                check.due("poll after " + sign * row[0], x.poll(0), row[1]);
            }
        }
    }

    /** The peer is server 1; the jitter of server 0 does not count. */
    private static void pollsGrowByThePeersJitter() {
        check.about("Promise 21: at most 4 times the peer's jitter plus 4096");
        long[][] rows = {{4 * 3000 + 4096, 7}, {4 * 3000 + 4097, 5}, {4 * 3000 + 4099, 5}};
        long[] others = {0, 20000};
        for (long[] row : rows) {
            for (long other : others) {
                for (long sign : SIGNS) {
                    StrataClient x = peerOfJitter(sign * row[0], 3000, other);
                    check.due("peer", x.peer(), 1);
                    x.update();
                    check.due("slew", x.slew(), sign * row[0]);
                    check.due("poll after " + sign * row[0], x.poll(1), row[1]);
                    check.due("poll of the other", x.poll(0), row[1]);
                }
            }
        }
    }

    private static StrataClient peerOfJitter(long c, long jitter, long other) {
        StrataClient x = Scene.client();
        Scene.take(x, 1, c + jitter, 8192);
        Scene.take(x, 1, c);
        x.put(Scene.STRATUM_AT, 2, 1);
        Scene.take(x, 0, c - other, 8192);
        Scene.take(x, 0, c);
        return x;
    }

    private static void pollsAtBothEdges() {
        check.about("Promise 21: at most 4 times the peer's jitter plus 4096 (with the greatest c that is slewed)");
        long jitter = (STEP - 4096) / 4;
        for (long sign : SIGNS) {
            pollsAfter(7, () -> peerOfJitter(sign * STEP, jitter, 0));
            pollsAfter(5, () -> peerOfJitter(sign * STEP, jitter - 1, 0));
            pollsAfter(7, () -> peerOfJitter(sign * STEP, 2000000000L, 0));
        }
    }

    private static void pollsAfter(int want, Supplier<StrataClient> maker) {
        StrataClient x = maker.get();
        check.due("update", x.update(), StrataClient.SLEWED);
        check.due("poll", x.poll(1), want);
    }

    private static void pollsOfSurvivorsGrow() {
        check.about("Promise 21: the polls of the survivors grow by 1");
        StrataClient x = Scene.clientWith(50, 3000, 60, 40, 90000000);
        check.due("survivors", x.survivors(), 13);
        x.update();
        int[] due = {7, 6, 7, 7, 6};
        for (int s = 0; s < 5; s++) {
            check.due("poll(" + s + ")", x.poll(s), due[s]);
        }
    }

    private static void pollsDoNotGrowBeyond() {
        check.about("Promise 21: the polls of the survivors grow by 1 (but not beyond 10)");
        StrataClient x = Scene.clientWith(50, 60);
        Scene.kiss(x, 1, Scene.RATE);
        for (int i = 1; i <= 6; i++) {
            x.update();
            check.due("poll(0)", x.poll(0), Math.min(10, 6 + i));
            check.due("poll(1)", x.poll(1), Math.min(10, 7 + i));
        }
    }

    /** Server 1 lies, 2 has no sample, 3 is denied: their polls get less too. */
    private static void pollsOfAllShrink() {
        check.about("Promise 21: otherwise all servers' polls get less by 1");
        StrataClient x = Scene.client();
        Scene.kiss(x, 3, Scene.DENY);
        Scene.kiss(x, 2, Scene.RATE);
        Scene.take(x, 0, 20000);
        Scene.take(x, 1, 90000000);
        Scene.take(x, 4, 20000);
        check.due("update", x.update(), StrataClient.SLEWED);
        int[] due = {5, 5, 6, 5, 5};
        for (int s = 0; s < 5; s++) {
            check.due("poll(" + s + ")", x.poll(s), due[s]);
        }
    }

    private static void pollsDoNotShrinkBelow() {
        check.about("Promise 21: otherwise all servers' polls get less by 1 (but not below 4)");
        StrataClient x = Scene.clientWith(20000);
        Scene.kiss(x, 2, Scene.RATE);
        for (int i = 1; i <= 5; i++) {
            check.due("update", x.update(), StrataClient.SLEWED);
            check.due("poll(0)", x.poll(0), Math.max(4, 6 - i));
            check.due("poll(2)", x.poll(2), Math.max(4, 7 - i));
            check.due("poll(4)", x.poll(4), Math.max(4, 6 - i));
        }
    }
}
