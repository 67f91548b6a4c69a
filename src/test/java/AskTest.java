/** Promises 7 to 11: send, receive, reach, poll, samples. */
public final class AskTest {
    private static final Check check = new Check();

    public static void main(String[] args) {
        sendAnswersLocal();
        sendDoublesReach();
        sendRefuses();
        receiveRefusesPackets();
        receiveRefusesServers();
        receiveNamesFirst();
        refusedReceiveKeepsTheExpectedTime();
        answersOnlyOnce();
        kissDenies(Scene.DENY);
        kissDenies(Scene.RSTR);
        kissSlowsDown();
        kissOfAnotherCode();
        kissComesBeforeTheRest();
        unsynchronized();
        wildOffsets();
        wildDelays();
        wildChangesLittle();
        sampleTakesRoot();
        sampleMakesReachOdd();
        samplesUpToEight();
        askingWrongServers();
        check.end();
    }

    private static void sendAnswersLocal() {
        StrataClient x = new StrataClient();
        check.due("send at 0", x.send(0), 0);
        x.run(123456);
        check.due("send at 123456", x.send(4), 123456);
        check.due("LOCAL stays", x.local(), 123456);
        check.due("send again", x.send(0), 123456);
        x.put(1, 1, 1);
        x.echo(0, 9, 9);
        check.due("receive by the newer time", x.receive(0), StrataClient.SAMPLE);
        check.due("offset by the newer time", x.offset(0), 9);
    }

    private static void sendDoublesReach() {
        StrataClient x = Scene.clientWith(5);
        for (int i = 1; i <= 7; i++) {
            x.send(0);
            check.due("reach after " + i + " calls of send", x.reach(0), 1 << i);
        }
        x.send(0);
        check.due("reach after 8 calls of send", x.reach(0), 0);
        for (int i = 0; i < 9; i++) {
            Scene.take(x, 1, 5);
        }
        check.due("reach of a server that always answers", x.reach(1), 255);
        x.send(1);
        check.due("reach after one more send", x.reach(1), 254);
    }

    private static void sendRefuses() {
        StrataClient x = Scene.clientWith(1, 2, 3);
        Scene.kiss(x, 1, Scene.DENY);
        check.refusedUnchanged("send to one that denies", x, IllegalStateException.class, () -> x.send(1));
        check.refusedUnchanged("send(-1)", x, IndexOutOfBoundsException.class, () -> x.send(-1));
        check.refusedUnchanged("send(5)", x, IndexOutOfBoundsException.class, () -> x.send(5));
        check.refused("echo after a refused send", IllegalStateException.class, () -> x.echo(1, 1, 1));
    }

    private static void receiveRefusesPackets() {
        for (int flags = 0; flags < 256; flags++) {
            StrataClient x = answered();
            x.put(0, flags, 1);
            boolean fit = flags / 8 % 8 == 4 && flags % 8 == 4;
            if (!fit) {
                check.refusedUnchanged("receive, byte 0 " + flags, x, IllegalArgumentException.class,
                    () -> x.receive(0));
            } else {
                int want = flags / 64 == 3 ? StrataClient.UNSYNCHRONIZED : StrataClient.SAMPLE;
                check.due("receive, byte 0 " + flags, x.receive(0), want);
            }
        }
        StrataClient x = answered();
        x.put(Scene.T3_AT, 0, 8);
        check.refusedUnchanged("receive, T3 0", x, IllegalArgumentException.class, () -> x.receive(0));
        for (int i = 0; i < 8; i++) {
            StrataClient y = answered();
            y.put(Scene.T3_AT, 0, 8);
            y.put(Scene.T3_AT + i, 1, 1);
            check.due("receive, T3 not 0 in byte " + i, y.receive(0), StrataClient.SAMPLE);
        }
    }

    private static void receiveRefusesServers() {
        StrataClient x = answered();
        check.refusedUnchanged("receive, nothing expected", x, IllegalStateException.class, () -> x.receive(1));
        x.run(1);
        x.send(1);
        check.refusedUnchanged("receive, another time expected", x, IllegalStateException.class, () -> x.receive(1));
        for (int i = 0; i < 8; i++) {
            StrataClient y = answered();
            y.put(Scene.ORIGIN_AT, 1000 ^ (1L << (8 * i)), 8);
            check.refusedUnchanged("receive, origin of another byte " + i, y, IllegalStateException.class,
                () -> y.receive(0));
        }
        StrataClient z = new StrataClient();
        z.put(0, 36, 1);
        z.put(1, 1, 1);
        z.put(Scene.T3_AT, 5, 8);
        check.refusedUnchanged("receive, origin 0 and nothing expected", z, IllegalStateException.class,
            () -> z.receive(0));
        z.send(0);
        check.due("receive, origin 0 and 0 expected", z.receive(0), StrataClient.SAMPLE);
    }

    private static void receiveNamesFirst() {
        StrataClient x = Scene.client();
        x.put(Scene.T3_AT, 9, 8);
        check.refused("wrong server, wrong packet", IndexOutOfBoundsException.class, () -> x.receive(5));
        check.refused("wrong server, wrong packet", IndexOutOfBoundsException.class, () -> x.receive(-1));
        check.refused("wrong packet, not asked", IllegalArgumentException.class, () -> x.receive(0));
        Scene.kiss(x, 0, Scene.DENY);
        check.refused("denied", IllegalStateException.class, () -> x.receive(0));
        x.put(0, 0, 1);
        check.refused("wrong packet, denied", IllegalArgumentException.class, () -> x.receive(0));
    }

    private static void refusedReceiveKeepsTheExpectedTime() {
        StrataClient x = answered();
        x.put(0, 35, 1);
        check.refused("wrong mode", IllegalArgumentException.class, () -> x.receive(0));
        x.put(0, 36, 1);
        x.put(Scene.ORIGIN_AT, 1001, 8);
        check.refused("wrong origin", IllegalStateException.class, () -> x.receive(0));
        x.put(Scene.ORIGIN_AT, 1000, 8);
        check.due("right at last", x.receive(0), StrataClient.SAMPLE);
    }

    private static void answersOnlyOnce() {
        for (int kind = 0; kind < 4; kind++) {
            StrataClient x = answered();
            if (kind == StrataClient.UNSYNCHRONIZED) {
                x.put(0, 228, 1);
            } else if (kind == StrataClient.KISS) {
                x.put(1, 0, 1);
            } else if (kind == StrataClient.WILD) {
                x.echo(0, 1L << 62, 1L << 62);
            }
            check.due("receive", x.receive(0), kind);
            check.refusedUnchanged("receive again after " + kind, x, IllegalStateException.class, () -> x.receive(0));
            check.refused("echo after " + kind, IllegalStateException.class, () -> x.echo(0, 1, 1));
        }
    }

    private static void kissDenies(long code) {
        StrataClient x = Scene.clientWith(50, 60);
        check.due("receive", Scene.kiss(x, 0, code), StrataClient.KISS);
        check.due("reach of the denied one", x.reach(0), 256 + 2);
        check.due("reach of another", x.reach(1), 1);
        check.due("its samples stay", x.samples(0), 1);
        check.due("its offset stays", x.offset(0), 50);
        check.due("its poll stays", x.poll(0), 6);
        check.due("candidates", x.candidates(), 2);
    }

    private static void kissSlowsDown() {
        StrataClient x = Scene.client();
        for (int i = 1; i <= 6; i++) {
            check.due("receive", Scene.kiss(x, 3, Scene.RATE), StrataClient.KISS);
            check.due("poll after " + i + " times RATE", x.poll(3), Math.min(10, 6 + i));
        }
        check.due("poll of another", x.poll(2), 6);
        check.due("it is not denied, its reach stays even", x.reach(3), 0);
        x.send(3);
    }

    private static void kissOfAnotherCode() {
        long[] codes = {0, 0x52415446L, 0x44454E58L, 0x64656E79L, 0x72617465L, 0x53524154L, 0x5445415255L, 0xFFFFFFFFL};
        StrataClient x = Scene.clientWith(50);
        for (long code : codes) {
            check.due("receive", Scene.kiss(x, 0, code), StrataClient.KISS);
            check.due("poll after the code " + code, x.poll(0), 6);
            check.due("not denied after the code " + code, x.reach(0) / 256, 0);
        }
        check.due("samples", x.samples(0), 1);
        check.due("reach", x.reach(0), 0);
    }

    private static void kissComesBeforeTheRest() {
        StrataClient x = answered();
        x.put(0, 228, 1);
        x.put(1, 0, 1);
        check.due("stratum 0, leap 3", x.receive(0), StrataClient.KISS);
        x.send(0);
        x.echo(0, 1L << 62, 1L << 62);
        check.due("stratum 0, wild times", x.receive(0), StrataClient.KISS);
        x.send(0);
        x.echo(0, 1L << 62, 1L << 62);
        x.put(1, 16, 1);
        check.due("stratum 16, wild times", x.receive(0), StrataClient.UNSYNCHRONIZED);
    }

    private static void unsynchronized() {
        for (int stratum = 1; stratum < 256; stratum++) {
            StrataClient x = answered();
            x.put(1, stratum, 1);
            x.put(Scene.CODE_AT, Scene.RATE, 4);
            int want = stratum > 15 ? StrataClient.UNSYNCHRONIZED : StrataClient.SAMPLE;
            check.due("receive, stratum " + stratum, x.receive(0), want);
            check.due("samples", x.samples(0), stratum > 15 ? 0 : 1);
            check.due("reach", x.reach(0), stratum > 15 ? 0 : 1);
            check.due("the code means nothing", x.poll(0), 6);
        }
    }

    private static void wildOffsets() {
        long edge = 1L << 60;
        wildOr("offset 2^60", edge, edge, StrataClient.SAMPLE, edge);
        wildOr("offset 2^60 + 1/2", edge + 1, edge, StrataClient.SAMPLE, edge);
        wildOr("offset 2^60 + 1", edge + 1, edge + 1, StrataClient.WILD, 0);
        wildOr("offset -2^60", -edge, -edge, StrataClient.SAMPLE, -edge);
        wildOr("offset -2^60 - 1/2", -edge - 1, -edge, StrataClient.WILD, 0);
        wildOr("offset -2^60 + 1/2", -edge + 1, -edge, StrataClient.SAMPLE, -edge);
        wildOr("offset -2^60 - 1", -edge - 1, -edge - 1, StrataClient.WILD, 0);
        wildOr("a sum that would wrap to -2", Long.MAX_VALUE, Long.MAX_VALUE, StrataClient.WILD, 0);
        wildOr("a sum that would wrap to 0", Long.MIN_VALUE, Long.MIN_VALUE, StrataClient.WILD, 0);
    }

    private static void wildOr(String what, long ahead, long back, int want, long offset) {
        StrataClient x = Scene.client();
        x.send(2);
        x.echo(2, ahead, back);
        check.due(what, x.receive(2), want);
        if (want == StrataClient.SAMPLE) {
            check.due(what, x.offset(2), offset);
        }
    }

    private static void wildDelays() {
        long half = 1L << 59;
        wildDelay("delay 2^60", half, -half, StrataClient.SAMPLE, 1L << 60);
        wildDelay("delay 2^60 + 1", half + 1, -half, StrataClient.WILD, 0);
        wildDelay("delay -2^61", -(1L << 60), 1L << 60, StrataClient.SAMPLE, 4096);
        wildDelay("a delay that wraps to -2^63", 1L << 62, -(1L << 62), StrataClient.SAMPLE, 4096);
        wildDelay("a delay that wraps to 2^63 - 1", (1L << 62) - 1, -(1L << 62), StrataClient.WILD, 0);
    }

    private static void wildDelay(String what, long ahead, long back, int want, long delay) {
        StrataClient x = Scene.client();
        x.send(2);
        x.echo(2, ahead, back);
        check.due(what, x.receive(2), want);
        if (want == StrataClient.SAMPLE) {
            check.due(what, x.delay(2), delay);
        }
    }

    private static void wildChangesLittle() {
        StrataClient x = Scene.client();
        Scene.take(x, 0, 40);
        x.put(Scene.ROOT_DELAY_AT, 8, 4);
        x.put(Scene.ROOT_DISPERSION_AT, 8, 4);
        check.due("receive", Scene.take(x, 0, 1L << 61), StrataClient.WILD);
        check.due("reach", x.reach(0), 2);
        check.due("samples", x.samples(0), 1);
        check.due("offset", x.offset(0), 40);
        check.due("root delay and root dispersion stay", x.distance(0), Scene.LEAST_DISTANCE);
    }

    private static void sampleTakesRoot() {
        StrataClient x = Scene.client();
        x.put(Scene.ROOT_DELAY_AT, 0xFFFFFFFFL, 4);
        x.put(Scene.ROOT_DISPERSION_AT, 0xFFFFFFFFL, 4);
        check.due("receive", Scene.take(x, 0, 40), StrataClient.SAMPLE);
        long most = 0xFFFFFFFFL * 65536;
        check.due("root delay and dispersion have no sign", x.distance(0), most / 2 + most + Scene.LEAST_DISTANCE);
        x.put(Scene.ROOT_DELAY_AT, 3, 4);
        x.put(Scene.ROOT_DISPERSION_AT, 1, 4);
        Scene.take(x, 0, 40);
        check.due("the newest packet's count", x.distance(0), 3 * 32768 + 65536 + Scene.LEAST_DISTANCE);
        Scene.take(x, 1, 40);
        x.put(1, 2, 1);
        Scene.take(x, 0, 40);
        check.due("the newest packet's stratum counts", x.peer(), 1);
    }

    private static void sampleMakesReachOdd() {
        StrataClient x = Scene.client();
        Scene.take(x, 0, 40);
        check.due("reach after the first", x.reach(0), 1);
        x.send(0);
        Scene.take(x, 0, 40);
        check.due("reach after a lost one", x.reach(0), 5);
        x.send(1);
        check.due("reach of one that did not answer", x.reach(1), 0);
    }

    private static void samplesUpToEight() {
        StrataClient x = Scene.client();
        for (int i = 1; i <= 8; i++) {
            Scene.take(x, 0, i * 1000, 8192);
            check.due("samples", x.samples(0), i);
        }
        check.due("offset of the newest of equal ones", x.offset(0), 8000);
        check.due("jitter with the first one", x.jitter(0), 7000);
        Scene.take(x, 0, 9000, 8192);
        check.due("samples after the ninth", x.samples(0), 8);
        check.due("jitter without the first one", x.jitter(0), 7000);
        Scene.take(x, 0, 9000, 8192);
        check.due("jitter without the second one", x.jitter(0), 6000);
        check.due("samples of another", x.samples(1), 0);
    }

    private static void askingWrongServers() {
        StrataClient x = Scene.clientWith(1, 2, 3, 4, 5);
        int[] wrong = {-1, 5, 6, Integer.MAX_VALUE, Integer.MIN_VALUE};
        for (int server : wrong) {
            check.refusedUnchanged("reach", x, IndexOutOfBoundsException.class, () -> x.reach(server));
            check.refusedUnchanged("poll", x, IndexOutOfBoundsException.class, () -> x.poll(server));
            check.refusedUnchanged("samples", x, IndexOutOfBoundsException.class, () -> x.samples(server));
            check.refusedUnchanged("send", x, IndexOutOfBoundsException.class, () -> x.send(server));
            check.refusedUnchanged("receive", x, IndexOutOfBoundsException.class, () -> x.receive(server));
        }
        for (int s = 0; s < 5; s++) {
            check.due("reach(" + s + ")", x.reach(s), 1);
            check.due("poll(" + s + ")", x.poll(s), 6);
            check.due("samples(" + s + ")", x.samples(s), 1);
        }
    }

    /** Server 0 was asked at 1000 and the packet is its answer. */
    private static StrataClient answered() {
        StrataClient x = Scene.client();
        x.send(0);
        x.echo(0, 500, 500);
        return x;
    }
}
