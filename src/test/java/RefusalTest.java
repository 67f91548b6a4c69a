import java.util.NoSuchElementException;
import java.util.function.BiConsumer;
import java.util.function.Consumer;
import java.util.function.Supplier;

/** What the document's Terms say of exceptions, for all calls: wrong servers, which one is first, what they change. */
public final class RefusalTest {
    private static final Check check = new Check();

    public static void main(String[] args) {
        check.all(
            RefusalTest::wrongServers,
            RefusalTest::rightServers,
            RefusalTest::putNamesTheCountFirst,
            RefusalTest::echoNamesTheServerFirst,
            RefusalTest::sendNamesTheServerFirst,
            RefusalTest::receiveNamesTheServerFirst,
            RefusalTest::receiveNamesThePacketSecond,
            RefusalTest::askingNamesTheServerFirst,
            RefusalTest::updateNamesTheAgreementFirst,
            RefusalTest::throwingChangesNothing,
            RefusalTest::throwingManyTimesChangesNothing);
        check.end();
    }

    private static void wrongServers() {
        check.about("Terms: All calls with a number of a server throw IndexOutOfBoundsException when it is not 0 .. 4");
        wrong("echo", (x, server) -> x.echo(server, 1, 1));
        wrong("send", (x, server) -> x.send(server));
        wrong("receive", (x, server) -> x.receive(server));
        wrong("reach", (x, server) -> x.reach(server));
        wrong("poll", (x, server) -> x.poll(server));
        wrong("samples", (x, server) -> x.samples(server));
        wrong("offset", (x, server) -> x.offset(server));
        wrong("delay", (x, server) -> x.delay(server));
        wrong("jitter", (x, server) -> x.jitter(server));
        wrong("distance", (x, server) -> x.distance(server));
    }

    private static void wrong(String what, BiConsumer<StrataClient, Integer> call) {
        for (int server : Scene.WRONG_SERVERS) {
            check.refusedUnchanged(what + " of " + server, IndexOutOfBoundsException.class, Scene::busy,
                x -> call.accept(x, server));
        }
    }

    private static void rightServers() {
        check.about("Terms: There are SERVERS 0 .. 4");
        StrataClient x = Scene.client();
        for (int s = 0; s < 5; s++) {
            check.due("send", x.send(s), 1000);
            x.echo(s, 10 * s, 10 * s);
            check.due("receive", x.receive(s), StrataClient.SAMPLE);
            check.due("reach", x.reach(s), 1);
            check.due("poll", x.poll(s), 6);
            check.due("samples", x.samples(s), 1);
            check.due("offset", x.offset(s), 10 * s);
            check.due("delay", x.delay(s), 4096);
            check.due("jitter", x.jitter(s), 0);
            check.due("distance", x.distance(s), Scene.LEAST_DISTANCE);
        }
    }

    private static void putNamesTheCountFirst() {
        first("put");
        int[][] both = {{-1, 0}, {48, 0}, {48, 9}, {40, 9}, {-1, -1}, {Integer.MIN_VALUE, 9}, {Integer.MAX_VALUE, -5}};
        for (int[] row : both) {
            check.refusedUnchanged("put(" + row[0] + ", 1, " + row[1] + ")", IllegalArgumentException.class, Scene::busy,
                x -> x.put(row[0], 1, row[1]));
        }
    }

    private static void echoNamesTheServerFirst() {
        first("echo");
        check.refused("nobody is asked", IndexOutOfBoundsException.class, () -> new StrataClient().echo(5, 1, 1));
        check.refused("nobody is asked", IndexOutOfBoundsException.class, () -> new StrataClient().echo(-1, 1, 1));
    }

    private static void sendNamesTheServerFirst() {
        first("send");
        Supplier<StrataClient> allDenied = () -> {
            StrataClient x = Scene.client();
            for (int s = 0; s < 5; s++) {
                Scene.kiss(x, s, Scene.DENY);
            }
            return x;
        };
        check.refusedUnchanged("all are denied", IndexOutOfBoundsException.class, allDenied, x -> x.send(5));
        check.refusedUnchanged("all are denied", IndexOutOfBoundsException.class, allDenied, x -> x.send(-1));
        check.refusedUnchanged("all are denied", IllegalStateException.class, allDenied, x -> x.send(4));
    }

    private static void receiveNamesTheServerFirst() {
        first("receive");
        check.refused("wrong server, wrong packet", IndexOutOfBoundsException.class,
            () -> new StrataClient().receive(5));
        check.refused("wrong server, wrong packet", IndexOutOfBoundsException.class,
            () -> new StrataClient().receive(-1));
    }

    private static void receiveNamesThePacketSecond() {
        first("receive");
        Supplier<StrataClient> wrongMode = () -> busyWithFlags(35);
        Supplier<StrataClient> noT3 = () -> {
            StrataClient x = Scene.busy();
            x.put(Scene.T3_AT, 0, 8);
            return x;
        };
        int[] servers = {1, 3, 4};
        for (int server : servers) {
            check.refusedUnchanged("wrong mode, and another origin, denied or not asked", IllegalArgumentException.class,
                wrongMode, x -> x.receive(server));
            check.refusedUnchanged("T3 is 0, and another origin, denied or not asked", IllegalArgumentException.class,
                noT3, x -> x.receive(server));
            check.refusedUnchanged("another origin, denied or not asked", IllegalStateException.class, Scene::busy,
                x -> x.receive(server));
        }
    }

    private static void askingNamesTheServerFirst() {
        first("offset, delay, jitter, distance");
        StrataClient x = new StrataClient();
        check.refused("offset", IndexOutOfBoundsException.class, () -> x.offset(5));
        check.refused("delay", IndexOutOfBoundsException.class, () -> x.delay(5));
        check.refused("jitter", IndexOutOfBoundsException.class, () -> x.jitter(5));
        check.refused("distance", IndexOutOfBoundsException.class, () -> x.distance(5));
        check.refused("offset", NoSuchElementException.class, () -> x.offset(4));
    }

    /** Both offsets are too far for a clock that was set, and do not agree either. */
    private static void updateNamesTheAgreementFirst() {
        first("update");
        check.refusedUnchanged("far offsets that do not agree", IllegalStateException.class, () -> {
            StrataClient x = Scene.clientWith(1L << 50);
            x.update();
            Scene.take(x, 0, 1L << 50);
            Scene.take(x, 1, 1L << 52);
            return x;
        }, StrataClient::update);
    }

    /** Every call that throws, once for each of its exceptions; the tests of the promises have their edges. */
    private static void throwingChangesNothing() {
        check.about("Terms: a call that throws changes nothing");
        unchanged("run", IllegalArgumentException.class, Scene::busy, x -> x.run(-4096));
        unchanged("put", IllegalArgumentException.class, Scene::busy, x -> x.put(24, -1, 9));
        unchanged("put", IndexOutOfBoundsException.class, Scene::busy, x -> x.put(41, -1, 8));
        unchanged("echo", IllegalStateException.class, Scene::busy, x -> x.echo(4, 1, 1));
        unchanged("send", IllegalStateException.class, Scene::busy, x -> x.send(3));
        unchanged("receive", IllegalArgumentException.class, () -> busyWithFlags(68), x -> x.receive(0));
        unchanged("receive", IllegalStateException.class, Scene::busy, x -> x.receive(1));
        unchanged("offset", NoSuchElementException.class, Scene::busy, x -> x.offset(4));
        unchanged("delay", NoSuchElementException.class, Scene::busy, x -> x.delay(4));
        unchanged("jitter", NoSuchElementException.class, Scene::busy, x -> x.jitter(4));
        unchanged("distance", NoSuchElementException.class, Scene::busy, x -> x.distance(4));
        Supplier<StrataClient> apart = () -> Scene.clientWith(10, 1L << 41);
        unchanged("low", NoSuchElementException.class, apart, StrataClient::low);
        unchanged("high", NoSuchElementException.class, apart, StrataClient::high);
        unchanged("peer", NoSuchElementException.class, apart, StrataClient::peer);
        unchanged("update", IllegalStateException.class, apart, StrataClient::update);
        unchanged("update", UnsupportedOperationException.class, RefusalTest::busyAndFar, StrataClient::update);
    }

    private static void unchanged(String what, Class<? extends RuntimeException> thrown, Supplier<StrataClient> maker,
            Consumer<StrataClient> call) {
        check.refusedUnchanged(what + " that throws " + thrown.getSimpleName(), thrown, maker, call);
    }

    private static StrataClient busyWithFlags(int flags) {
        StrataClient x = Scene.busy();
        x.put(Scene.FLAGS_AT, flags, 1);
        return x;
    }

    /** A busy client whose one candidate is too far away for a clock that was set. */
    private static StrataClient busyAndFar() {
        StrataClient x = Scene.busy();
        for (int s = 0; s < 3; s++) {
            for (int i = 0; i < 8; i++) {
                x.send(s);
            }
        }
        Scene.take(x, 4, 1L << 43);
        return x;
    }

    private static void throwingManyTimesChangesNothing() {
        check.about("Terms: a call that throws changes nothing (many times)");
        StrataClient x = Scene.busy();
        for (int i = 0; i < 20; i++) {
            check.refused("send", IllegalStateException.class, () -> x.send(3));
            check.refused("send", IndexOutOfBoundsException.class, () -> x.send(5));
            check.refused("receive", IllegalStateException.class, () -> x.receive(2));
            check.refused("echo", IllegalStateException.class, () -> x.echo(4, 1, 1));
            check.refused("put", IndexOutOfBoundsException.class, () -> x.put(48, 1, 1));
        }
        check.due("everything afterwards", Scene.everything(x), Scene.everything(Scene.busy()));
    }

    private static void first(String call) {
        check.about("Terms: Of several exceptions the one that is named first is thrown (" + call + ")");
    }
}
