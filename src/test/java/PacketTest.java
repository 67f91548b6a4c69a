/** Promises 5 and 6: put, echo. */
public final class PacketTest {
    private static final Check check = new Check();

    public static void main(String[] args) {
        check.all(
            PacketTest::theHighestByteFirst,
            PacketTest::theLowestBytes,
            PacketTest::fromAPlaceOn,
            PacketTest::rootsHaveNoSign,
            PacketTest::otherBytesMeanNothing,
            PacketTest::countsAtTheirEdges,
            PacketTest::countsRefused,
            PacketTest::placesAtTheirEdges,
            PacketTest::placesRefused,
            PacketTest::echoMakesAnAnswer,
            PacketTest::echoTakesTheServersTime,
            PacketTest::echoWraps,
            PacketTest::echoLeavesOtherBytes,
            PacketTest::echoOfAnExpectedZero,
            PacketTest::echoRefuses,
            PacketTest::echoRefusesWrongServers);
        check.end();
    }

    /** T1, T3 and T4 are 1000: T2 is told by the delay, T2 - 1000, and by the offset, half of that. */
    private static void theHighestByteFirst() {
        check.about("Terms: numbers of several bytes have the highest byte first");
        StrataClient x = Scene.answered();
        x.put(Scene.T3_AT, 1000, 8);
        x.put(Scene.T2_AT, 0x0002030405060708L, 8);
        sampleOf(x, 0x0002030405060708L);
        StrataClient y = Scene.answered();
        y.put(Scene.T3_AT, 1000, 8);
        for (int i = 0; i < 8; i++) {
            y.put(Scene.T2_AT + i, i == 0 ? 0 : i + 1, 1);
        }
        sampleOf(y, 0x0002030405060708L);
    }

    private static void theLowestBytes() {
        check.about("Promise 5: The n lowest bytes of v are put into the packet");
        long v = 0x0922334455667788L;
        for (int n = 2; n <= 8; n++) {
            StrataClient x = Scene.answered();
            x.put(Scene.T3_AT, 1000, 8);
            x.put(Scene.T2_AT, 0, 8);
            x.put(Scene.T2_AT + 8 - n, n == 8 ? v : v | (0xF8L << (8 * n)), n);
            sampleOf(x, n == 8 ? v : v & ((1L << (8 * n)) - 1));
        }
        StrataClient x = Scene.answered();
        x.put(Scene.STRATUM_AT, 0xFFFFFFFFFFFFFF0FL, 1);
        check.due("receive with the stratum 15", x.receive(0), StrataClient.SAMPLE);
        StrataClient y = Scene.answered();
        y.put(Scene.STRATUM_AT, 0x0F10, 1);
        check.due("receive with the stratum 16", y.receive(0), StrataClient.UNSYNCHRONIZED);
    }

    private static void sampleOf(StrataClient x, long t2) {
        check.due("receive", x.receive(0), StrataClient.SAMPLE);
        check.due("delay by T2", x.delay(0), t2 - 1000);
        check.due("offset by T2", x.offset(0), Math.floorDiv(t2 - 1000, 2));
    }

    private static void fromAPlaceOn() {
        check.about("Promise 5: from a place on");
        StrataClient x = Scene.answered();
        x.put(Scene.ROOT_DELAY_AT, 0x00010000, 4);
        x.put(Scene.ROOT_DELAY_AT + 2, 0x2204, 2);
        x.put(Scene.ROOT_DISPERSION_AT, 3, 4);
        x.receive(0);
        check.due("the bytes before and behind stay", x.distance(0), 0x00012204L * 32768 + 3 * 65536 + Scene.LEAST_DISTANCE);
    }

    private static void rootsHaveNoSign() {
        check.about("Terms: both have four bytes without a sign, times 65536 units");
        root(0xFFFFFFFFL, 0);
        root(0, 0xFFFFFFFFL);
        root(0x80000000L, 0x80000000L);
        root(0xFFFFFFFFL, 0xFFFFFFFFL);
        root(1, 0);
        root(0, 1);
    }

    private static void root(long delay, long dispersion) {
        StrataClient x = Scene.answered();
        x.put(Scene.ROOT_DELAY_AT, delay, 4);
        x.put(Scene.ROOT_DISPERSION_AT, dispersion, 4);
        check.due("receive", x.receive(0), StrataClient.SAMPLE);
        check.due("distance by the root delay " + delay + " and the root dispersion " + dispersion, x.distance(0),
            delay * 32768 + dispersion * 65536 + Scene.LEAST_DISTANCE);
    }

    private static void otherBytesMeanNothing() {
        check.about("Terms: (The other bytes mean nothing.)");
        StrataClient x = Scene.answered();
        x.put(2, -1, 2);
        x.put(16, -1, 8);
        check.due("receive", x.receive(0), StrataClient.SAMPLE);
        StrataClient y = Scene.answered();
        y.receive(0);
        check.due("all afterwards", Scene.answers(x), Scene.answers(y));
    }

    private static void countsAtTheirEdges() {
        check.about("Promise 5: n is 1 .. 8");
        StrataClient x = Scene.answered();
        x.put(Scene.T3_AT + 7, 1, 1);
        x.put(Scene.T2_AT, 1001, 8);
        check.due("receive", x.receive(0), StrataClient.SAMPLE);
        check.due("offset", x.offset(0), Math.floorDiv(1 + (1024 + 256 + 1 - 1000), 2));
    }

    private static void countsRefused() {
        check.about("Promise 5: IllegalArgumentException when n is not 1 .. 8");
        int[] wrong = {0, 9, -1, -8, 48, 256 + 1, Integer.MAX_VALUE, Integer.MIN_VALUE};
        for (int n : wrong) {
            check.refusedUnchanged("put(0, -1, " + n + ")", IllegalArgumentException.class, Scene::busy,
                x -> x.put(0, -1, n));
            check.refusedUnchanged("put(32, -1, " + n + ")", IllegalArgumentException.class, Scene::busy,
                x -> x.put(32, -1, n));
        }
    }

    private static void placesAtTheirEdges() {
        check.about("Promise 5: when they do all lie in it");
        for (int n = 1; n <= 8; n++) {
            StrataClient x = Scene.answered();
            x.put(Scene.FLAGS_AT, 0, 1);
            x.put(0, n == 1 ? 0x24 : 0x2401L << (8 * (n - 2)), n);
            x.put(Scene.T3_AT, 0, 8);
            x.put(48 - n, 1, n);
            check.due("receive after " + n + " bytes at both ends", x.receive(0), StrataClient.SAMPLE);
            check.due("offset by the T3 1", x.offset(0), Math.floorDiv(500 + 1 - 1000, 2));
        }
    }

    private static void placesRefused() {
        check.about("Promise 5: IndexOutOfBoundsException when they do not all lie in it");
        for (int n = 1; n <= 8; n++) {
            int count = n;
            int[] wrong = {-1, -n, 49 - n, 48, 49, Integer.MAX_VALUE, Integer.MAX_VALUE - n + 1, Integer.MIN_VALUE};
            for (int at : wrong) {
                check.refusedUnchanged("put(" + at + ", -1, " + n + ")", IndexOutOfBoundsException.class, Scene::busy,
                    x -> x.put(at, -1, count));
            }
        }
    }

    private static void echoMakesAnAnswer() {
        check.about("Promise 6: byte 0 becomes 36, the origin the server's expected time, T2 that plus ahead, "
            + "T3 LOCAL plus back");
        StrataClient x = Scene.client();
        x.send(1);
        x.run(5000);
        x.put(Scene.FLAGS_AT, 255, 1);
        x.put(Scene.ORIGIN_AT, -1, 8);
        x.put(Scene.T2_AT, -1, 8);
        x.put(Scene.T3_AT, -1, 8);
        x.echo(1, 70000, -3000);
        x.run(300);
        check.due("receive", x.receive(1), StrataClient.SAMPLE);
        check.due("offset", x.offset(1), (70000 - 3000 - 300) / 2);
        check.due("delay", x.delay(1), 5300 - (5000 - 3000 - 70000));
    }

    private static void echoTakesTheServersTime() {
        check.about("Promise 6: an answer to what a server was asked");
        StrataClient x = Scene.client();
        x.send(1);
        x.run(1);
        x.send(2);
        x.echo(1, 10, 10);
        check.refused("receive from another server", IllegalStateException.class, () -> x.receive(2));
        check.due("receive", x.receive(1), StrataClient.SAMPLE);
    }

    private static void echoWraps() {
        check.about("Promise 6: T2 that plus ahead, T3 LOCAL plus back (and times wrap)");
        StrataClient x = Scene.client();
        check.due("receive", Scene.takeTimes(x, 0, Long.MAX_VALUE, Long.MIN_VALUE + 1), StrataClient.SAMPLE);
        check.due("offset", x.offset(0), 0);
        StrataClient y = Scene.client();
        check.due("receive", Scene.takeTimes(y, 0, Long.MIN_VALUE, Long.MAX_VALUE), StrataClient.SAMPLE);
        check.due("offset", y.offset(0), -1);
        StrataClient z = Scene.client();
        z.send(0);
        z.echo(0, 5, -1000);
        check.refused("receive, T3 became 0", IllegalArgumentException.class, () -> z.receive(0));
    }

    private static void echoLeavesOtherBytes() {
        check.about("Promise 6: its other bytes stay");
        StrataClient x = Scene.client();
        x.put(Scene.STRATUM_AT, 7, 1);
        x.put(Scene.ROOT_DELAY_AT, 0x01020304, 4);
        x.put(Scene.ROOT_DISPERSION_AT, 0x05060708, 4);
        x.put(Scene.CODE_AT, Scene.RATE, 4);
        Scene.take(x, 0, 3);
        check.due("root delay and root dispersion", x.distance(0),
            0x01020304L * 32768 + 0x05060708L * 65536 + Scene.LEAST_DISTANCE);
        x.put(Scene.STRATUM_AT, 0, 1);
        check.due("the stratum", Scene.take(x, 0, 3), StrataClient.KISS);
        check.due("the code", x.poll(0), 7);
        x.put(Scene.STRATUM_AT, 16, 1);
        check.due("the stratum", Scene.take(x, 0, 3), StrataClient.UNSYNCHRONIZED);
    }

    private static void echoOfAnExpectedZero() {
        check.about("Promise 6: the server has an expected time that is 0");
        StrataClient x = new StrataClient();
        x.put(Scene.STRATUM_AT, 1, 1);
        check.due("receive", Scene.take(x, 0, 30), StrataClient.SAMPLE);
    }

    private static void echoRefuses() {
        check.about("Promise 6: IllegalStateException when the server has no expected time");
        check.refusedUnchanged("of one that was never asked", IllegalStateException.class, Scene::busy,
            x -> x.echo(4, 1, 1));
        check.refusedUnchanged("of a denied one", IllegalStateException.class, Scene::busy, x -> x.echo(3, 1, 1));
        check.refusedUnchanged("of one that has answered", IllegalStateException.class, () -> {
            StrataClient x = Scene.busy();
            x.receive(0);
            return x;
        }, x -> x.echo(0, 1, 1));
        check.refusedUnchanged("after a step", IllegalStateException.class, () -> {
            StrataClient x = Scene.clientWith(1L << 40);
            x.send(2);
            x.update();
            return x;
        }, x -> x.echo(2, 1, 1));
    }

    private static void echoRefusesWrongServers() {
        check.about("Promise 6: IndexOutOfBoundsException");
        for (int server : Scene.WRONG_SERVERS) {
            check.refusedUnchanged("echo(" + server + ", ..)", IndexOutOfBoundsException.class, Scene::busy,
                x -> x.echo(server, 1, 1));
        }
    }
}
