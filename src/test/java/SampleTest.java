import java.util.NoSuchElementException;
import java.util.function.Consumer;

/** Promises 12 to 15 (offset, delay, jitter, distance), and what the document's Terms say of samples. */
public final class SampleTest {
    private static final Check check = new Check();

    public static void main(String[] args) {
        check.all(
            SampleTest::timesWrap,
            SampleTest::offsetRoundsDown,
            SampleTest::theSumDoesNotWrap,
            SampleTest::theDelayWraps,
            SampleTest::theLeastDelay,
            SampleTest::atMostEight,
            SampleTest::ageRoundsDown,
            SampleTest::ageCountsTheSlew,
            SampleTest::delayIsHalvedRoundedDown,
            SampleTest::halvesAreRoundedEach,
            SampleTest::bestByDelay,
            SampleTest::bestByAge,
            SampleTest::eachSampleHasItsOwnAge,
            SampleTest::newestOfEqualOnes,
            SampleTest::bestMayBeAnyOfEight,
            SampleTest::jitterHasNoSign,
            SampleTest::jitterIsTheGreatest,
            SampleTest::jitterFollowsTheBest,
            SampleTest::rootDistanceSumsUp,
            SampleTest::rootDelayIsHalved,
            SampleTest::greatestDistance,
            SampleTest::noOffset,
            SampleTest::noDelay,
            SampleTest::noJitter,
            SampleTest::noDistance,
            SampleTest::noSampleAnyMore);
        check.end();
    }

    private static void timesWrap() {
        check.about("Terms: times wrap, and the difference of two times is the long that a subtraction gives");
        StrataClient x = Scene.answered();
        x.put(Scene.T2_AT, Long.MIN_VALUE, 8);
        x.put(Scene.T3_AT, Long.MIN_VALUE + 2002, 8);
        check.due("T2 - T1 and T3 - T4 wrap", x.receive(0), StrataClient.SAMPLE);
        check.due("offset", x.offset(0), 1);
        check.due("delay", x.delay(0), 4096);
        StrataClient y = Scene.clientWith(-(1L << 60));
        y.update();
        check.due("LOCAL", y.local(), 1000 - (1L << 60));
        check.due("T2 is far beyond T1", Scene.takeTimes(y, 0, Long.MIN_VALUE, Long.MAX_VALUE), StrataClient.SAMPLE);
        check.due("offset", y.offset(0), -1);
        StrataClient z = Scene.answered();
        z.put(Scene.T2_AT, Long.MAX_VALUE, 8);
        z.put(Scene.T3_AT, Long.MIN_VALUE + 8000, 8);
        check.due("T3 - T2 wraps", z.receive(0), StrataClient.SAMPLE);
        check.due("offset", z.offset(0), Math.floorDiv(8000 - 2000 - 1, 2));
    }

    private static void offsetRoundsDown() {
        check.about("Terms: the offset is half of (T2 - T1) + (T3 - T4), rounded down");
        long[][] rows = {{3, 4, 3}, {-3, -4, -4}, {1, 0, 0}, {-1, 0, -1}, {0, -1, -1}, {-1, 1, 0}, {7, -10, -2},
            {2, 2, 2}, {-2, -2, -2}, {1L << 60, (1L << 60) - 1, (1L << 60) - 1}, {-(1L << 60), 1 - (1L << 60), -(1L << 60)}};
        for (long[] row : rows) {
            StrataClient x = Scene.client();
            Scene.takeTimes(x, 0, row[0], row[1]);
            check.due("offset by " + row[0] + " and " + row[1], x.offset(0), row[2]);
        }
    }

    /** A sum that wrapped would make these offsets small. */
    private static void theSumDoesNotWrap() {
        check.about("Terms: (the sum of both differences does not wrap)");
        long[][] rows = {{Long.MAX_VALUE, Long.MAX_VALUE}, {Long.MIN_VALUE, Long.MIN_VALUE},
            {Long.MIN_VALUE + 1, Long.MIN_VALUE + 1}, {Long.MAX_VALUE, Long.MAX_VALUE - 5000},
            {Long.MIN_VALUE, Long.MIN_VALUE + 7}};
        for (long[] row : rows) {
            StrataClient x = Scene.client();
            check.due("receive by " + row[0] + " and " + row[1], Scene.takeTimes(x, 0, row[0], row[1]),
                StrataClient.WILD);
        }
    }

    private static void theDelayWraps() {
        check.about("Terms: the delay is (T4 - T1) - (T3 - T2), which wraps");
        StrataClient x = Scene.client();
        check.due("2^63 wraps to -2^63", Scene.takeTimes(x, 0, 1L << 62, -(1L << 62)), StrataClient.SAMPLE);
        check.due("delay", x.delay(0), 4096);
        StrataClient y = Scene.client();
        check.due("-2^64 + 5000 wraps to 5000", Scene.takeTimes(y, 0, Long.MIN_VALUE + 2500, Long.MAX_VALUE - 2499),
            StrataClient.SAMPLE);
        check.due("offset", y.offset(0), 0);
        check.due("delay", y.delay(0), 5000);
        StrataClient z = Scene.client();
        check.due("-2^63 - 1 wraps to 2^63 - 1", Scene.takeTimes(z, 0, -(1L << 62) - 1, 1L << 62), StrataClient.WILD);
    }

    private static void theLeastDelay() {
        check.about("Terms: but 4096 if that is less");
        long[][] rows = {{0, 4096}, {4095, 4096}, {4096, 4096}, {4097, 4097}, {-1, 4096}, {-4097, 4096},
            {1000001, 1000001}, {-(1L << 61), 4096}};
        for (long[] row : rows) {
            StrataClient x = Scene.client();
            Scene.takeTimes(x, 1, row[0], 0);
            check.due("delay of " + row[0], x.delay(1), row[1]);
        }
        StrataClient x = Scene.client();
        x.send(1);
        x.run(9000);
        x.echo(1, 40, 10);
        x.run(500);
        x.receive(1);
        check.due("delay of a way of 9500 with 8970 at the server", x.delay(1), 4096);
        check.due("offset", x.offset(1), (40 + 10 - 500) / 2);
    }

    private static void atMostEight() {
        check.about("Terms: at most 8 SAMPLES, the newest first");
        StrataClient x = Scene.client();
        for (int i = 1; i <= 8; i++) {
            Scene.take(x, 2, 1000, 8192);
        }
        check.due("samples", x.samples(2), 8);
        Scene.take(x, 2, 5000, 10000);
        check.due("samples after the ninth", x.samples(2), 8);
        check.due("an older and better one counts", x.offset(2), 1000);
        for (int i = 0; i < 6; i++) {
            Scene.take(x, 2, 5000, 10000);
            check.due("it counts as long as it is there", x.offset(2), 1000);
        }
        Scene.take(x, 2, 5000, 10000);
        check.due("until the last of them is gone", x.offset(2), 5000);
        check.due("jitter", x.jitter(2), 0);
    }

    private static void ageRoundsDown() {
        check.about("Terms: its DISPERSION 65536 plus age / 65536 rounded down");
        long[][] ages = {{0, 0}, {1, 0}, {65535, 0}, {65536, 1}, {65537, 1}, {131071, 1}, {131072, 2},
            {1L << 40, 1L << 24}, {(1L << 40) - 1, (1L << 24) - 1}};
        for (long[] row : ages) {
            StrataClient x = Scene.clientWith(10);
            x.run(row[0]);
            check.due("distance at the age " + row[0], x.distance(0), Scene.LEAST_DISTANCE + row[1]);
        }
    }

    private static void ageCountsTheSlew() {
        check.about("Terms: The AGE of a sample is LOCAL less the time at which it came");
        long[] signs = {1, -1};
        for (long sign : signs) {
            StrataClient x = Scene.clientWith(sign * 65536);
            x.update();
            x.run(2048 * 65536L);
            check.due("LOCAL", x.local(), 1000 + 2048 * 65536L + sign * 65536);
            check.due("distance", x.distance(0), Scene.LEAST_DISTANCE + 2048 + sign);
        }
    }

    /** Half of 10000 and half of 10001 are the same distance, so the newest counts. */
    private static void delayIsHalvedRoundedDown() {
        check.about("Terms: its DISTANCE half its delay rounded down plus its dispersion");
        StrataClient x = Scene.client();
        Scene.takeTimes(x, 0, 10000, 0);
        Scene.takeTimes(x, 0, 10001, 0);
        check.due("delay", x.delay(0), 10001);
        Scene.takeTimes(x, 0, 10002, 0);
        check.due("delay", x.delay(0), 10001);
        Scene.takeTimes(x, 0, 10000, 0);
        check.due("delay", x.delay(0), 10000);
    }

    /** Half a unit of the delay and half a unit of the age make no unit together. */
    private static void halvesAreRoundedEach() {
        check.about("Terms: half its delay rounded down, plus .. the dispersion of its best sample");
        StrataClient x = Scene.client();
        Scene.takeTimes(x, 0, 10001, 10001 - 10001);
        x.run(32768);
        check.due("distance", x.distance(0), 5000 + 65536);
        x.run(32768);
        check.due("distance", x.distance(0), 5000 + 65536 + 1);
    }

    private static void bestByDelay() {
        check.about("Terms: The BEST sample of a server is the one with the least distance");
        StrataClient x = Scene.client();
        Scene.take(x, 0, 10, 20000);
        Scene.take(x, 0, 20, 10000);
        Scene.take(x, 0, 30, 30000);
        check.due("offset", x.offset(0), 20);
        check.due("delay", x.delay(0), 10000);
        Scene.take(x, 1, 30, 8192);
        check.due("another server's samples are its own", x.offset(0), 20);
    }

    /** A delay that is less by 2 is worth an age of 65536. */
    private static void bestByAge() {
        check.about("Terms: The BEST sample of a server is the one with the least distance (by its age)");
        StrataClient x = Scene.client();
        Scene.take(x, 0, 10, 10000);
        x.run(3 * 65536);
        Scene.take(x, 0, 20, 10008);
        check.due("the older one is best by one", x.offset(0), 10);
        x.run(1L << 40);
        check.due("and stays best while both age", x.offset(0), 10);
        Scene.take(x, 0, 30, 5000000);
        check.due("a newer one, worn only by its delay", x.offset(0), 30);
        check.due("its delay", x.delay(0), 5000000);
    }

    /** The middle one is best, though the first would be if it were as new, and the last if its delay were less. */
    private static void eachSampleHasItsOwnAge() {
        check.about("Terms: the time at which it came (LOCAL then)");
        StrataClient x = Scene.client();
        Scene.take(x, 0, 10, 10000);
        x.run(100 * 65536);
        Scene.take(x, 0, 20, 10020);
        x.run(50 * 65536);
        Scene.take(x, 0, 30, 10140);
        check.due("offset", x.offset(0), 20);
        check.due("distance", x.distance(0), 5010 + 65536 + 50 + 10);
        x.run(7 * 65536);
        check.due("distance later", x.distance(0), 5010 + 65536 + 57 + 10);
    }

    private static void newestOfEqualOnes() {
        check.about("Terms: with equal ones the newest");
        StrataClient x = Scene.client();
        Scene.take(x, 0, 10, 10000);
        Scene.take(x, 0, 20, 10000);
        check.due("the newest of two", x.offset(0), 20);
        Scene.take(x, 0, 30, 20000);
        check.due("the newer of the best two", x.offset(0), 20);
        x.run(3 * 65536);
        Scene.take(x, 0, 40, 10006);
        check.due("equal by age and delay: the newest", x.offset(0), 40);
        check.due("its delay", x.delay(0), 10006);
        x.run(65535);
        check.due("equal for as long as the ages' parts are", x.offset(0), 40);
    }

    private static void bestMayBeAnyOfEight() {
        check.about("Terms: The BEST sample of a server, of at most 8");
        for (int best = 0; best < 8; best++) {
            StrataClient x = Scene.client();
            for (int i = 0; i < 8; i++) {
                Scene.take(x, 3, 100 + i, i == best ? 8000 : 9000);
            }
            check.due("offset", x.offset(3), 100 + best);
        }
    }

    private static void jitterHasNoSign() {
        check.about("Terms: its JITTER is the greatest difference (without its sign)");
        StrataClient x = Scene.client();
        Scene.take(x, 0, 100, 8192);
        check.due("jitter of one sample", x.jitter(0), 0);
        Scene.take(x, 0, 40, 10000);
        check.due("jitter below", x.jitter(0), 60);
        StrataClient y = Scene.client();
        Scene.take(y, 0, 100, 8192);
        Scene.take(y, 0, 160, 10000);
        check.due("jitter above", y.jitter(0), 60);
        StrataClient z = Scene.client();
        Scene.take(z, 0, -100, 8192);
        Scene.take(z, 0, 70, 10000);
        check.due("jitter on both sides of 0", z.jitter(0), 170);
    }

    private static void jitterIsTheGreatest() {
        check.about("Terms: its JITTER is the greatest difference of the offset of one of its samples and its offset");
        for (int far = 0; far < 7; far++) {
            StrataClient x = Scene.client();
            for (int i = 0; i < 7; i++) {
                Scene.take(x, 0, i == far ? 1000 : 150 - 100 * (i % 2), 10000);
            }
            Scene.take(x, 0, 100, 8192);
            check.due("jitter", x.jitter(0), 900);
        }
        StrataClient y = Scene.client();
        Scene.take(y, 0, 1L << 60);
        Scene.take(y, 0, -(1L << 60));
        check.due("the greatest jitter there is", y.jitter(0), 1L << 61);
    }

    private static void jitterFollowsTheBest() {
        check.about("Terms: and its offset, which is that of its best sample");
        StrataClient x = Scene.client();
        Scene.take(x, 0, 0, 10000);
        Scene.take(x, 0, 100, 10000);
        Scene.take(x, 0, 300, 20000);
        check.due("jitter round 100", x.jitter(0), 200);
        Scene.take(x, 0, 0, 8192);
        check.due("jitter round 0", x.jitter(0), 300);
    }

    private static void rootDistanceSumsUp() {
        check.about("Terms: its ROOT DISTANCE");
        StrataClient x = Scene.client();
        x.put(Scene.ROOT_DELAY_AT, 5, 4);
        x.put(Scene.ROOT_DISPERSION_AT, 11, 4);
        Scene.take(x, 4, 1000, 6000);
        x.run(10 * 65536);
        Scene.take(x, 4, 1700, 9000);
        check.due("offset", x.offset(4), 1000);
        check.due("distance", x.distance(4), 5 * 32768 + 3000 + 11 * 65536 + 65536 + 10 + 700);
    }

    private static void rootDelayIsHalved() {
        check.about("Terms: half its root delay rounded down, plus half its delay rounded down");
        StrataClient x = Scene.client();
        x.put(Scene.ROOT_DELAY_AT, 1, 4);
        Scene.takeTimes(x, 0, 10001, 0);
        check.due("distance", x.distance(0), 32768 + 5000 + 65536);
    }

    private static void greatestDistance() {
        check.about("Terms: its ROOT DISTANCE, at its greatest");
        StrataClient x = Scene.client();
        x.put(Scene.ROOT_DELAY_AT, 0xFFFFFFFFL, 4);
        x.put(Scene.ROOT_DISPERSION_AT, 0xFFFFFFFFL, 4);
        long half = 1L << 59;
        Scene.takeTimes(x, 0, (1L << 60) + half, (1L << 60) - half);
        Scene.takeTimes(x, 0, half - (1L << 60), -half - (1L << 60));
        check.due("delay", x.delay(0), 1L << 60);
        check.due("distance", x.distance(0), 0xFFFFFFFFL * 32768 + half + 0xFFFFFFFFL * 65536 + 65536 + (1L << 61));
        check.due("candidates", x.candidates(), 0);
    }

    private static void noOffset() {
        refusedAt("Promise 12: NoSuchElementException when it has no sample", "offset", x -> x.offset(4));
    }

    private static void noDelay() {
        refusedAt("Promise 13: NoSuchElementException when it has no sample", "delay", x -> x.delay(4));
    }

    private static void noJitter() {
        refusedAt("Promise 14: NoSuchElementException when it has no sample", "jitter", x -> x.jitter(4));
    }

    private static void noDistance() {
        refusedAt("Promise 15: NoSuchElementException when it has no sample", "distance", x -> x.distance(4));
    }

    /** Server 4 was never asked, or was asked and did not answer, or not with a sample. */
    private static void refusedAt(String words, String what, Consumer<StrataClient> call) {
        check.about(words);
        check.refusedUnchanged(what, NoSuchElementException.class, Scene::busy, call);
        check.refusedUnchanged(what + " of one that was asked", NoSuchElementException.class, () -> {
            StrataClient x = Scene.busy();
            x.send(4);
            return x;
        }, call);
        StrataClient x = Scene.client();
        Scene.kiss(x, 4, Scene.RATE);
        check.refused(what + " after KISS", NoSuchElementException.class, () -> call.accept(x));
        Scene.take(x, 4, 1L << 61);
        check.refused(what + " after WILD", NoSuchElementException.class, () -> call.accept(x));
        x.put(Scene.STRATUM_AT, 16, 1);
        Scene.take(x, 4, 7);
        check.refused(what + " after UNSYNCHRONIZED", NoSuchElementException.class, () -> call.accept(x));
        x.put(Scene.STRATUM_AT, 15, 1);
        Scene.take(x, 4, 7);
        call.accept(x);
        check.due("samples", x.samples(4), 1);
    }

    private static void noSampleAnyMore() {
        check.about("Promises 12 to 15: NoSuchElementException when it has no sample (after a step)");
        StrataClient x = Scene.clientWith(1L << 40, 1L << 40);
        x.update();
        for (int s = 0; s < 5; s++) {
            int server = s;
            check.refused("offset", NoSuchElementException.class, () -> x.offset(server));
            check.refused("delay", NoSuchElementException.class, () -> x.delay(server));
            check.refused("jitter", NoSuchElementException.class, () -> x.jitter(server));
            check.refused("distance", NoSuchElementException.class, () -> x.distance(server));
        }
    }
}
