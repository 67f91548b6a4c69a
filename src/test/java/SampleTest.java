import java.util.NoSuchElementException;

/** Promises 12 to 15: offset, delay, jitter, distance. */
public final class SampleTest {
    private static final Check check = new Check();

    public static void main(String[] args) {
        offsetRoundsDown();
        leastDelay();
        bestByDelay();
        bestByAge();
        eachSampleHasItsOwnAge();
        bestOfEqualOnes();
        delayIsHalvedRoundedDown();
        dispersionGrows();
        jitterIsGreatest();
        jitterFollowsTheBest();
        distanceSumsUp();
        ageCountsTheSlew();
        refusals();
        check.end();
    }

    private static void offsetRoundsDown() {
        long[][] rows = {{3, 4, 3}, {-3, -4, -4}, {1, 0, 0}, {-1, 0, -1}, {-1, 1, 0}, {7, -10, -2}};
        for (long[] row : rows) {
            StrataClient x = Scene.client();
            x.send(0);
            x.echo(0, row[0], row[1]);
            x.receive(0);
            check.due("offset by " + row[0] + " and " + row[1], x.offset(0), row[2]);
        }
    }

    private static void leastDelay() {
        long[][] rows = {{0, 4096}, {4094, 4096}, {4096, 4096}, {4098, 4098}, {-4098, 4096}, {1000000, 1000000}};
        for (long[] row : rows) {
            StrataClient x = Scene.client();
            Scene.take(x, 1, 50, row[0]);
            check.due("delay of " + row[0], x.delay(1), row[1]);
            check.due("offset", x.offset(1), 50);
        }
        StrataClient x = Scene.client();
        x.send(1);
        x.echo(1, 4097, 0);
        x.receive(1);
        check.due("delay of 4097", x.delay(1), 4097);
    }

    private static void bestByDelay() {
        StrataClient x = Scene.client();
        Scene.take(x, 0, 10, 20000);
        Scene.take(x, 0, 20, 10000);
        Scene.take(x, 0, 30, 30000);
        check.due("offset", x.offset(0), 20);
        check.due("delay", x.delay(0), 10000);
        Scene.take(x, 1, 30, 8192);
        check.due("another server's samples are its own", x.offset(0), 20);
    }

    /** A delay that is less by 2 is worth an age of 65536. */
    private static void bestByAge() {
        StrataClient x = Scene.client();
        Scene.take(x, 0, 10, 10000);
        x.run(3 * 65536);
        Scene.take(x, 0, 20, 10008);
        check.due("the older one is best by one", x.offset(0), 10);
        x.run(1L << 40);
        check.due("and stays best while both age", x.offset(0), 10);
        Scene.take(x, 0, 30, 5000000);
        check.due("a newer one, worn only by its delay", x.offset(0), 30);
        check.due("its delay", x.delay(0), 5000000);
    }

    /** The middle one is best, though the first would be if it were as new, and the last if its delay were less. */
    private static void eachSampleHasItsOwnAge() {
        StrataClient x = Scene.client();
        Scene.take(x, 0, 10, 10000);
        x.run(100 * 65536);
        Scene.take(x, 0, 20, 10020);
        x.run(50 * 65536);
        Scene.take(x, 0, 30, 10140);
        check.due("offset", x.offset(0), 20);
        check.due("distance", x.distance(0), 5010 + 65536 + 50 + 10);
        x.run(7 * 65536);
        check.due("distance later", x.distance(0), 5010 + 65536 + 57 + 10);
    }

    private static void bestOfEqualOnes() {
        StrataClient x = Scene.client();
        Scene.take(x, 0, 10, 10000);
        Scene.take(x, 0, 20, 10000);
        check.due("the newest of equal ones", x.offset(0), 20);
        x.run(3 * 65536);
        Scene.take(x, 0, 30, 10006);
        check.due("equal by age and delay: the newest", x.offset(0), 30);
        x.run(65535);
        check.due("equal for as long as the age's part stays", x.offset(0), 30);
    }

    private static void delayIsHalvedRoundedDown() {
        StrataClient x = Scene.client();
        x.send(0);
        x.echo(0, 10001, 0);
        x.receive(0);
        x.send(0);
        x.echo(0, 10000, 0);
        x.receive(0);
        x.send(0);
        x.echo(0, 10001, 0);
        x.receive(0);
        check.due("10000 and 10001 are equal, the newest counts", x.delay(0), 10001);
        check.due("distance with half of 10001", x.distance(0), 5000 + 65536 + 0);
    }

    private static void dispersionGrows() {
        StrataClient x = Scene.clientWith(10);
        x.run(65535);
        check.due("distance at the age 65535", x.distance(0), Scene.LEAST_DISTANCE);
        x.run(1);
        check.due("distance at the age 65536", x.distance(0), Scene.LEAST_DISTANCE + 1);
        x.run(1L << 40);
        check.due("distance at the age 2^40 + 65536", x.distance(0), Scene.LEAST_DISTANCE + 1 + (1L << 24));
    }

    private static void jitterIsGreatest() {
        StrataClient x = Scene.client();
        Scene.take(x, 0, 100, 8192);
        check.due("jitter of one sample", x.jitter(0), 0);
        Scene.take(x, 0, 40, 10000);
        check.due("jitter below", x.jitter(0), 60);
        Scene.take(x, 0, 150, 10000);
        check.due("jitter of three", x.jitter(0), 60);
        Scene.take(x, 0, 161, 10000);
        check.due("jitter above", x.jitter(0), 61);
        StrataClient y = Scene.client();
        Scene.take(y, 0, 1L << 60);
        Scene.take(y, 0, -(1L << 60));
        check.due("the greatest jitter there is", y.jitter(0), 1L << 61);
        check.due("its distance", y.distance(0), (1L << 61) + Scene.LEAST_DISTANCE);
    }

    private static void jitterFollowsTheBest() {
        StrataClient x = Scene.client();
        Scene.take(x, 0, 0, 10000);
        Scene.take(x, 0, 100, 10000);
        Scene.take(x, 0, 300, 20000);
        check.due("jitter round 100", x.jitter(0), 200);
        Scene.take(x, 0, 0, 8192);
        check.due("jitter round 0", x.jitter(0), 300);
    }

    private static void distanceSumsUp() {
        StrataClient x = Scene.client();
        x.put(Scene.ROOT_DELAY_AT, 5, 4);
        x.put(Scene.ROOT_DISPERSION_AT, 11, 4);
        Scene.take(x, 4, 1000, 6000);
        x.run(10 * 65536);
        Scene.take(x, 4, 1700, 9000);
        check.due("offset", x.offset(4), 1000);
        check.due("distance", x.distance(4), 5 * 32768 + 3000 + 11 * 65536 + 65536 + 10 + 700);
    }

    private static void ageCountsTheSlew() {
        StrataClient x = Scene.clientWith(65536);
        x.update();
        x.run(2048 * 65536L);
        check.due("LOCAL", x.local(), 1000 + 2048 * 65536L + 65536);
        check.due("the age has the slew in it", x.distance(0), Scene.LEAST_DISTANCE + 2049);
    }

    private static void refusals() {
        StrataClient x = Scene.clientWith(1);
        int[] wrong = {-1, 5, Integer.MAX_VALUE, Integer.MIN_VALUE};
        for (int server : wrong) {
            check.refusedUnchanged("offset", x, IndexOutOfBoundsException.class, () -> x.offset(server));
            check.refusedUnchanged("delay", x, IndexOutOfBoundsException.class, () -> x.delay(server));
            check.refusedUnchanged("jitter", x, IndexOutOfBoundsException.class, () -> x.jitter(server));
            check.refusedUnchanged("distance", x, IndexOutOfBoundsException.class, () -> x.distance(server));
        }
        for (int s = 1; s < 5; s++) {
            int server = s;
            check.refusedUnchanged("offset", x, NoSuchElementException.class, () -> x.offset(server));
            check.refusedUnchanged("delay", x, NoSuchElementException.class, () -> x.delay(server));
            check.refusedUnchanged("jitter", x, NoSuchElementException.class, () -> x.jitter(server));
            check.refusedUnchanged("distance", x, NoSuchElementException.class, () -> x.distance(server));
        }
    }
}
