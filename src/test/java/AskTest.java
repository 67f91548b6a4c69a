/** Promises 7 to 11: send, receive, reach, poll, samples. */
public final class AskTest {
    private static final Check check = new Check();
    private static final long EDGE = 1L << 60;

    public static void main(String[] args) {
        check.all(
            AskTest::sendAnswersLocal,
            AskTest::sendAgain,
            AskTest::sendDoublesReach,
            AskTest::sendRefusesTheDenied,
            AskTest::versionOrMode,
            AskTest::t3IsZero,
            AskTest::deniedOnesAreRefused,
            AskTest::nothingExpected,
            AskTest::anotherOrigin,
            AskTest::noExpectedTimeThen,
            AskTest::refusedOnesStayExpected,
            AskTest::kissAtStratumZero,
            () -> kissDenies(Scene.DENY),
            () -> kissDenies(Scene.RSTR),
            AskTest::kissSlowsDown,
            AskTest::kissOfAnotherCode,
            AskTest::kissComesFirst,
            AskTest::leapThree,
            AskTest::stratumBeyondFifteen,
            AskTest::unsynchronizedComesSecond,
            AskTest::wildOffsets,
            AskTest::wildDelays,
            AskTest::othersLeaveTheServer,
            AskTest::sampleTakesRoot,
            AskTest::sampleMakesReachOdd,
            AskTest::theNinthIsGone,
            AskTest::reachOfTheDenied,
            AskTest::pollOfEach,
            AskTest::samplesOfEach);
        check.end();
    }

    private static void sendAnswersLocal() {
        check.about("Promise 7: LOCAL is its expected time, which is answered");
        StrataClient x = new StrataClient();
        check.due("send at 0", x.send(0), 0);
        x.run(123456);
        check.due("send at 123456", x.send(4), 123456);
        check.due("LOCAL stays", x.local(), 123456);
        StrataClient y = Scene.clientWith(-EDGE);
        y.update();
        check.due("send after a step back", y.send(1), 1000 - EDGE);
    }

    private static void sendAgain() {
        check.about("Promise 7: LOCAL is its expected time");
        StrataClient x = Scene.answered();
        x.run(5000);
        x.send(0);
        check.refused("receive of an answer to the first", IllegalStateException.class, () -> x.receive(0));
        x.echo(0, 9, 9);
        check.due("receive of an answer to the second", x.receive(0), StrataClient.SAMPLE);
        check.due("offset by the second", x.offset(0), 9);
    }

    private static void sendDoublesReach() {
        check.about("Promise 7: its reach is doubled, modulo 256");
        StrataClient x = Scene.clientWith(5);
        for (int i = 1; i <= 7; i++) {
            x.send(0);
            check.due("reach after " + i + " calls of send", x.reach(0), 1 << i);
        }
        x.send(0);
        check.due("reach 128 doubled", x.reach(0), 0);
        x.send(0);
        check.due("reach 0 doubled", x.reach(0), 0);
        for (int i = 0; i < 9; i++) {
            Scene.take(x, 1, 5);
        }
        check.due("reach of a server that always answers", x.reach(1), 255);
        x.send(1);
        check.due("reach 255 doubled", x.reach(1), 254);
        x.send(1);
        check.due("reach 254 doubled", x.reach(1), 252);
        check.due("reach of another", x.reach(0), 0);
    }

    private static void sendRefusesTheDenied() {
        check.about("Promise 7: IllegalStateException when it is denied");
        check.refusedUnchanged("send", IllegalStateException.class, Scene::busy, x -> x.send(3));
        StrataClient x = Scene.clientWith(1, 2);
        Scene.kiss(x, 1, Scene.RSTR);
        check.refused("send", IllegalStateException.class, () -> x.send(1));
        check.due("send to another", x.send(0), 1000);
    }

    private static void versionOrMode() {
        check.about("Promise 8: IllegalArgumentException when its version or its mode is not 4");
        for (int i = 0; i < 256; i++) {
            int flags = i;
            if (flags / 8 % 8 != 4 || flags % 8 != 4) {
                check.refusedUnchanged("receive, byte 0 " + flags, IllegalArgumentException.class,
                    () -> busyWith(Scene.FLAGS_AT, flags, 1), x -> x.receive(0));
            }
        }
        for (int leap = 0; leap < 4; leap++) {
            check.due("receive, leap " + leap, busyWith(Scene.FLAGS_AT, 64 * leap + 36, 1).receive(0),
                leap == 3 ? StrataClient.UNSYNCHRONIZED : StrataClient.SAMPLE);
        }
    }

    private static void t3IsZero() {
        check.about("Promise 8: IllegalArgumentException when .. T3 is 0");
        check.refusedUnchanged("receive", IllegalArgumentException.class, () -> busyWith(Scene.T3_AT, 0, 8),
            x -> x.receive(0));
        for (int bit = 0; bit < 64; bit++) {
            StrataClient x = busyWith(Scene.T3_AT, 1L << bit, 8);
            check.due("receive, T3 2^" + bit, x.receive(0), bit > 61 ? StrataClient.WILD : StrataClient.SAMPLE);
        }
    }

    private static void deniedOnesAreRefused() {
        check.about("Promise 8: IllegalStateException when the server is denied");
        check.refusedUnchanged("receive", IllegalStateException.class, Scene::busy, x -> x.receive(3));
    }

    private static void nothingExpected() {
        check.about("Promise 8: IllegalStateException when the server .. has no expected time");
        check.refusedUnchanged("receive", IllegalStateException.class, Scene::busy, x -> x.receive(4));
        StrataClient x = new StrataClient();
        x.put(Scene.FLAGS_AT, 36, 1);
        x.put(Scene.T3_AT, 5, 8);
        check.refused("receive with the origin 0", IllegalStateException.class, () -> x.receive(0));
    }

    private static void anotherOrigin() {
        check.about("Promise 8: IllegalStateException when the server .. has .. another one than the origin");
        check.refusedUnchanged("receive of another server's answer", IllegalStateException.class, Scene::busy,
            x -> x.receive(1));
        for (int bit = 0; bit < 64; bit++) {
            long origin = 50040 ^ (1L << bit);
            check.refusedUnchanged("receive, origin " + origin, IllegalStateException.class,
                () -> busyWith(Scene.ORIGIN_AT, origin, 8), x -> x.receive(0));
        }
    }

    private static void noExpectedTimeThen() {
        check.about("Promise 8: Otherwise it has no expected time then");
        gone("SAMPLE", StrataClient.SAMPLE, Scene.answered());
        gone("UNSYNCHRONIZED by the leap", StrataClient.UNSYNCHRONIZED, answeredWith(Scene.FLAGS_AT, 228, 1));
        gone("UNSYNCHRONIZED by the stratum", StrataClient.UNSYNCHRONIZED, answeredWith(Scene.STRATUM_AT, 16, 1));
        gone("WILD by the offset", StrataClient.WILD, answeredWith(Scene.T2_AT, 1L << 62, 8));
        gone("WILD by the delay", StrataClient.WILD, answeredWith(Scene.T3_AT, -(1L << 61), 8));
        long[] codes = {0, Scene.DENY, Scene.RSTR, Scene.RATE};
        for (long code : codes) {
            StrataClient x = answeredWith(Scene.STRATUM_AT, 0, 1);
            x.put(Scene.CODE_AT, code, 4);
            gone("KISS of the code " + code, StrataClient.KISS, x);
        }
    }

    private static void gone(String what, int answer, StrataClient x) {
        x.send(1);
        check.due(what + ": receive", x.receive(0), answer);
        check.refused(what + ": receive again", IllegalStateException.class, () -> x.receive(0));
        check.refused(what + ": echo", IllegalStateException.class, () -> x.echo(0, 1, 1));
        x.echo(1, 5, 5);
        x.put(Scene.STRATUM_AT, 1, 1);
        check.due(what + ": another server's stays", x.receive(1), StrataClient.SAMPLE);
    }

    private static void refusedOnesStayExpected() {
        check.about("Terms: a call that throws changes nothing (receive)");
        StrataClient x = Scene.answered();
        x.put(Scene.FLAGS_AT, 35, 1);
        check.refused("wrong mode", IllegalArgumentException.class, () -> x.receive(0));
        x.put(Scene.FLAGS_AT, 36, 1);
        x.put(Scene.ORIGIN_AT, 1001, 8);
        check.refused("wrong origin", IllegalStateException.class, () -> x.receive(0));
        x.put(Scene.ORIGIN_AT, 1000, 8);
        check.due("right at last", x.receive(0), StrataClient.SAMPLE);
    }

    private static void kissAtStratumZero() {
        check.about("Promise 8: KISS when the packet's stratum is 0");
        StrataClient x = Scene.answered();
        x.put(Scene.STRATUM_AT, 0, 1);
        check.due("stratum 0", x.receive(0), StrataClient.KISS);
        StrataClient y = Scene.answered();
        y.put(Scene.CODE_AT, Scene.DENY, 4);
        check.due("stratum 1", y.receive(0), StrataClient.SAMPLE);
        check.due("its code means nothing", y.reach(0), 1);
        StrataClient z = Scene.answered();
        z.put(Scene.STRATUM_AT, 16, 1);
        z.put(Scene.CODE_AT, Scene.RATE, 4);
        check.due("stratum 16", z.receive(0), StrataClient.UNSYNCHRONIZED);
        check.due("its code means nothing", z.poll(0), 6);
    }

    private static void kissDenies(long code) {
        check.about("Promise 8: the server is denied if the code is DENY or RSTR");
        StrataClient x = Scene.clientWith(50, 60);
        check.due("receive", Scene.kiss(x, 0, code), StrataClient.KISS);
        check.due("reach of the denied one", x.reach(0), 256 + 2);
        check.due("reach of another", x.reach(1), 1);
        check.due("its samples stay", x.samples(0), 1);
        check.due("its offset stays", x.offset(0), 50);
        check.due("its poll stays", x.poll(0), 6);
        check.due("candidates", x.candidates(), 2);
    }

    private static void kissSlowsDown() {
        check.about("Promise 8: its poll grows by 1 if it is RATE (but not beyond 10)");
        StrataClient x = Scene.client();
        for (int i = 1; i <= 6; i++) {
            check.due("receive", Scene.kiss(x, 3, Scene.RATE), StrataClient.KISS);
            check.due("poll after " + i + " times RATE", x.poll(3), Math.min(10, 6 + i));
        }
        check.due("poll of another", x.poll(2), 6);
        check.due("it is not denied, and its reach stays even", x.reach(3), 0);
        check.due("send", x.send(3), 1000);
    }

    private static void kissOfAnotherCode() {
        check.about("Promise 8: the code is DENY or RSTR (in the codes of these letters) .. RATE");
        for (int bit = 0; bit < 32; bit++) {
            kissWithoutEffect(Scene.DENY ^ (1L << bit));
            kissWithoutEffect(Scene.RSTR ^ (1L << bit));
            kissWithoutEffect(Scene.RATE ^ (1L << bit));
        }
        long[] others = {0, 0x64656E79L, 0x72737472L, 0x72617465L, 0x594E4544L, 0x52545352L, 0x45544152L, 0xFFFFFFFFL};
        for (long code : others) {
            kissWithoutEffect(code);
        }
    }

    private static void kissWithoutEffect(long code) {
        StrataClient x = Scene.clientWith(50);
        check.due("receive", Scene.kiss(x, 0, code), StrataClient.KISS);
        check.due("poll after the code " + code, x.poll(0), 6);
        check.due("reach after the code " + code, x.reach(0), 2);
    }

    private static void kissComesFirst() {
        check.about("Promise 8: KISS when the packet's stratum is 0 .. Else ..");
        StrataClient x = Scene.answered();
        x.put(Scene.FLAGS_AT, 228, 1);
        x.put(Scene.STRATUM_AT, 0, 1);
        check.due("stratum 0, leap 3", x.receive(0), StrataClient.KISS);
        check.due("stratum 0, wild times", Scene.takeTimes(x, 0, 1L << 62, 1L << 62), StrataClient.KISS);
    }

    private static void leapThree() {
        check.about("Promise 8: Else UNSYNCHRONIZED when the leap is 3");
        for (int leap = 0; leap < 4; leap++) {
            StrataClient x = Scene.answered();
            x.put(Scene.FLAGS_AT, 64 * leap + 36, 1);
            check.due("leap " + leap, x.receive(0), leap == 3 ? StrataClient.UNSYNCHRONIZED : StrataClient.SAMPLE);
        }
    }

    private static void stratumBeyondFifteen() {
        check.about("Promise 8: Else UNSYNCHRONIZED when .. the stratum is more than 15");
        for (int stratum = 1; stratum < 256; stratum++) {
            StrataClient x = Scene.answered();
            x.put(Scene.STRATUM_AT, stratum, 1);
            check.due("stratum " + stratum, x.receive(0),
                stratum > 15 ? StrataClient.UNSYNCHRONIZED : StrataClient.SAMPLE);
            check.due("samples", x.samples(0), stratum > 15 ? 0 : 1);
        }
    }

    private static void unsynchronizedComesSecond() {
        check.about("Promise 8: Else UNSYNCHRONIZED .. Else WILD");
        StrataClient x = Scene.client();
        x.put(Scene.STRATUM_AT, 16, 1);
        check.due("stratum 16, wild times", Scene.takeTimes(x, 0, 1L << 62, 1L << 62), StrataClient.UNSYNCHRONIZED);
        x.put(Scene.STRATUM_AT, 1, 1);
        x.send(0);
        x.echo(0, 1L << 62, 1L << 62);
        x.put(Scene.FLAGS_AT, 228, 1);
        check.due("leap 3, wild times", x.receive(0), StrataClient.UNSYNCHRONIZED);
    }

    private static void wildOffsets() {
        check.about("Promise 8: Else WILD when the offset is not -2^60 .. 2^60");
        offsetOf(EDGE, EDGE, EDGE);
        offsetOf(EDGE - 1, EDGE - 1, EDGE - 1);
        offsetOf(EDGE + 1, EDGE, EDGE);
        offsetOf(-EDGE, -EDGE, -EDGE);
        offsetOf(-EDGE + 1, -EDGE, -EDGE);
        wild("offset 2^60 + 1", EDGE + 1, EDGE + 1);
        wild("offset -2^60 - 1/2, rounded down", -EDGE - 1, -EDGE);
        wild("offset -2^60 - 1", -EDGE - 1, -EDGE - 1);
        wild("offset 2^61", 2 * EDGE, 2 * EDGE);
        wild("offset -2^61", -2 * EDGE, -2 * EDGE);
    }

    private static void offsetOf(long ahead, long back, long want) {
        StrataClient x = Scene.client();
        check.due("receive by " + ahead + " and " + back, Scene.takeTimes(x, 2, ahead, back), StrataClient.SAMPLE);
        check.due("offset by " + ahead + " and " + back, x.offset(2), want);
    }

    private static void wild(String what, long ahead, long back) {
        StrataClient x = Scene.client();
        check.due(what, Scene.takeTimes(x, 2, ahead, back), StrataClient.WILD);
        check.due(what + ": samples", x.samples(2), 0);
    }

    private static void wildDelays() {
        check.about("Promise 8: Else WILD when .. the delay is more than 2^60");
        delayOf(EDGE / 2, -EDGE / 2, EDGE);
        delayOf(EDGE / 2, 1 - EDGE / 2, EDGE - 1);
        delayOf(-EDGE, EDGE, 4096);
        wild("delay 2^60 + 1", EDGE / 2 + 1, -EDGE / 2);
        wild("delay 2^61", EDGE, -EDGE);
        wild("delay 2^63 - 1", (1L << 62) - 1, -(1L << 62));
    }

    private static void delayOf(long ahead, long back, long want) {
        StrataClient x = Scene.client();
        check.due("receive by " + ahead + " and " + back, Scene.takeTimes(x, 2, ahead, back), StrataClient.SAMPLE);
        check.due("delay by " + ahead + " and " + back, x.delay(2), want);
    }

    /** Stratum, root delay, root dispersion, reach and samples change with a SAMPLE alone. */
    private static void othersLeaveTheServer() {
        check.about("Promise 8: Else SAMPLE: stratum, root delay and root dispersion of the server are the packet's");
        for (int kind = 1; kind < 4; kind++) {
            StrataClient x = Scene.client();
            x.put(Scene.STRATUM_AT, 3, 1);
            Scene.take(x, 0, 40);
            Scene.take(x, 1, 40);
            x.put(Scene.ROOT_DELAY_AT, 8, 4);
            x.put(Scene.ROOT_DISPERSION_AT, 8, 4);
            x.send(1);
            x.echo(1, kind == StrataClient.WILD ? EDGE * 2 : 50, kind == StrataClient.WILD ? EDGE * 2 : 50);
            x.put(Scene.STRATUM_AT, kind == StrataClient.KISS ? 0 : 1, 1);
            x.put(Scene.FLAGS_AT, kind == StrataClient.UNSYNCHRONIZED ? 228 : 36, 1);
            check.due("receive", x.receive(1), kind);
            check.due("reach after " + kind, x.reach(1), 2);
            check.due("samples after " + kind, x.samples(1), 1);
            check.due("offset after " + kind, x.offset(1), 40);
            check.due("distance after " + kind, x.distance(1), Scene.LEAST_DISTANCE);
            check.due("peer after " + kind, x.peer(), 0);
        }
    }

    private static void sampleTakesRoot() {
        check.about("Promise 8: stratum, root delay and root dispersion of the server are the packet's");
        StrataClient x = Scene.client();
        x.put(Scene.ROOT_DELAY_AT, 100, 4);
        x.put(Scene.ROOT_DISPERSION_AT, 200, 4);
        Scene.take(x, 0, 40);
        Scene.take(x, 1, 40);
        x.put(Scene.ROOT_DELAY_AT, 3, 4);
        x.put(Scene.ROOT_DISPERSION_AT, 1, 4);
        Scene.take(x, 0, 40);
        check.due("the newest packet's count", x.distance(0), 3 * 32768 + 65536 + Scene.LEAST_DISTANCE);
        check.due("another's stay", x.distance(1), 100 * 32768 + 200 * 65536 + Scene.LEAST_DISTANCE);
        check.due("peer", x.peer(), 0);
        x.put(Scene.STRATUM_AT, 2, 1);
        Scene.take(x, 0, 40);
        check.due("peer, now of a lesser stratum", x.peer(), 1);
    }

    private static void sampleMakesReachOdd() {
        check.about("Promise 8: its reach is the next odd number if it is even");
        StrataClient x = Scene.client();
        int reach = 0;
        for (int i = 1; i <= 8; i++) {
            Scene.take(x, 0, 40);
            reach = 2 * reach + 1;
            check.due("reach", x.reach(0), reach);
        }
        x.send(0);
        Scene.take(x, 0, 40);
        check.due("reach after a lost one", x.reach(0), 253);
        x.send(1);
        check.due("reach of one that did not answer", x.reach(1), 0);
    }

    /** The newest is the best of equal ones, so the jitter tells the oldest that is left. */
    private static void theNinthIsGone() {
        check.about("Promise 8: the sample becomes its newest one (a ninth one is gone)");
        StrataClient x = Scene.client();
        for (int i = 1; i <= 8; i++) {
            Scene.take(x, 0, i * i * 1000);
            check.due("samples", x.samples(0), i);
            check.due("offset of the newest", x.offset(0), i * i * 1000);
            check.due("jitter with the first one", x.jitter(0), i * i * 1000 - 1000);
        }
        for (int i = 9; i <= 20; i++) {
            Scene.take(x, 0, i * i * 1000);
            check.due("samples after the " + i + "th", x.samples(0), 8);
            check.due("offset of the newest", x.offset(0), i * i * 1000);
            check.due("jitter without the ninth newest", x.jitter(0), i * i * 1000 - (i - 7) * (i - 7) * 1000);
        }
    }

    private static void reachOfTheDenied() {
        check.about("Promise 9: The reach of a server, plus 256 when it is denied");
        StrataClient x = Scene.client();
        Scene.kiss(x, 0, Scene.DENY);
        check.due("reach 0, denied", x.reach(0), 256);
        for (int i = 0; i < 8; i++) {
            Scene.take(x, 1, 5);
        }
        check.due("reach 255, not denied", x.reach(1), 255);
        Scene.kiss(x, 1, Scene.RSTR);
        check.due("reach 254, denied", x.reach(1), 256 + 254);
        check.due("reach of another", x.reach(2), 0);
    }

    private static void pollOfEach() {
        check.about("Promise 10: The poll of a server");
        StrataClient x = Scene.client();
        for (int s = 0; s < 5; s++) {
            for (int i = 0; i < s; i++) {
                Scene.kiss(x, s, Scene.RATE);
            }
        }
        for (int s = 0; s < 5; s++) {
            check.due("poll(" + s + ")", x.poll(s), 6 + s);
        }
    }

    private static void samplesOfEach() {
        check.about("Promise 11: How many samples a server has");
        StrataClient x = Scene.client();
        for (int s = 0; s < 5; s++) {
            for (int i = 0; i < s; i++) {
                Scene.take(x, s, 10);
            }
        }
        for (int s = 0; s < 5; s++) {
            check.due("samples(" + s + ")", x.samples(s), s);
        }
    }

    private static StrataClient answeredWith(int at, long v, int n) {
        StrataClient x = Scene.answered();
        x.put(at, v, n);
        return x;
    }

    /** A busy client with other bytes in its packet, which is an answer of server 0. */
    private static StrataClient busyWith(int at, long v, int n) {
        StrataClient x = Scene.busy();
        x.put(at, v, n);
        return x;
    }
}
