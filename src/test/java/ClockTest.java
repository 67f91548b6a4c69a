/** Promises 1 to 4: a new object, run, local, slew. */
public final class ClockTest {
    private static final Check check = new Check();

    public static void main(String[] args) {
        newObject();
        newPacketIsZero();
        newClockWasNeverSet();
        newObjectsAreApart();
        runGrowsLocal();
        runRefuses();
        runTakesSlew(700000);
        runTakesSlew(-700000);
        runRoundsDown();
        check.end();
    }

    private static void newObject() {
        String server = " | 0 6 0 none none none none";
        check.due("a new object", Scene.answers(new StrataClient()),
            "local 0 slew 0" + server.repeat(5) + " | 0 none none 0 none");
        for (int s = 0; s < 5; s++) {
            int server0 = s;
            StrataClient x = new StrataClient();
            check.refused("echo of a server that was not asked", IllegalStateException.class,
                () -> x.echo(server0, 1, 1));
        }
        check.refused("a new object's update", IllegalStateException.class, () -> new StrataClient().update());
    }

    private static void newPacketIsZero() {
        StrataClient x = new StrataClient();
        x.run(9);
        x.send(0);
        x.echo(0, 5, 5);
        check.due("stratum 0 in a new packet", x.receive(0), StrataClient.KISS);
        check.due("a code of zeros denies nothing", x.reach(0), 0);
        check.due("a code of zeros leaves the poll", x.poll(0), 6);
        x.put(1, 1, 1);
        x.send(0);
        x.echo(0, 5, 5);
        check.due("receive", x.receive(0), StrataClient.SAMPLE);
        check.due("root delay and dispersion of a new packet are 0", x.distance(0), Scene.LEAST_DISTANCE);
    }

    private static void newClockWasNeverSet() {
        StrataClient x = Scene.clientWith(1L << 50);
        check.due("the first update may be as far as it likes", x.update(), StrataClient.STEPPED);
    }

    private static void newObjectsAreApart() {
        StrataClient x = Scene.clientWith(77, 78);
        StrataClient y = new StrataClient();
        check.due("another object's samples", y.samples(0), 0);
        check.due("another object's LOCAL", y.local(), 0);
        y.run(5);
        check.due("LOCAL of the first", x.local(), 1000);
    }

    private static void runGrowsLocal() {
        StrataClient x = new StrataClient();
        x.run(0);
        check.due("run(0)", x.local(), 0);
        x.run(1);
        check.due("run(1)", x.local(), 1);
        x.run(1L << 40);
        check.due("run(2^40)", x.local(), (1L << 40) + 1);
        check.due("no slew comes of it", x.slew(), 0);
    }

    private static void runRefuses() {
        StrataClient x = Scene.clientWith(700);
        x.update();
        long[] wrong = {-1, (1L << 40) + 1, Long.MIN_VALUE, Long.MAX_VALUE, -(1L << 40)};
        for (long d : wrong) {
            check.refusedUnchanged("run(" + d + ")", x, IllegalArgumentException.class, () -> x.run(d));
        }
    }

    private static void runTakesSlew(long c) {
        StrataClient x = Scene.clientWith(c);
        x.update();
        check.due("slew after update", x.slew(), c);
        long sign = c < 0 ? -1 : 1;
        x.run(2048 * 1000);
        check.due("slew after a part", x.slew(), c - sign * 1000);
        check.due("LOCAL after a part", x.local(), 1000 + 2048 * 1000 + sign * 1000);
        long left = Math.abs(x.slew());
        long before = x.local();
        x.run(2048 * (left - 1));
        check.due("slew after all but one unit", x.slew(), sign);
        check.due("LOCAL after all but one unit", x.local(), before + (2048 + sign) * (left - 1));
        before = x.local();
        x.run(1L << 40);
        check.due("slew after the last", x.slew(), 0);
        check.due("LOCAL after the last", x.local(), before + (1L << 40) + sign);
    }

    private static void runRoundsDown() {
        StrataClient x = Scene.clientWith(-10);
        x.update();
        x.run(2047);
        check.due("slew after run(2047)", x.slew(), -10);
        check.due("LOCAL after run(2047)", x.local(), 3047);
        x.run(2048);
        check.due("slew after run(2048)", x.slew(), -9);
        check.due("LOCAL after run(2048)", x.local(), 3047 + 2048 - 1);
        x.run(4095);
        check.due("slew after run(4095)", x.slew(), -8);
    }
}
