/** Promises 5 and 6: put, echo. */
public final class PacketTest {
    private static final Check check = new Check();

    public static void main(String[] args) {
        putHighestByteFirst();
        putTakesLowestBytes();
        putLeavesOtherBytes();
        putAtEdges();
        putRefuses();
        putRefusedChangesNothing();
        echoFillsTimes();
        echoWraps();
        echoLeavesOtherBytes();
        echoRefuses();
        check.end();
    }

    /** The offset tells T2, since T1, T3 and T4 are known. */
    private static void putHighestByteFirst() {
        StrataClient x = asked();
        x.put(Scene.T2_AT, 0x0000010203040506L, 8);
        x.put(Scene.T3_AT, 1000, 8);
        x.receive(0);
        check.due("offset by a T2 that was put", x.offset(0), (0x0000010203040506L - 1000) / 2);
        x = asked();
        for (int i = 0; i < 8; i++) {
            x.put(Scene.T2_AT + i, i < 2 ? 0 : i - 1, 1);
        }
        x.put(Scene.T3_AT, 1000, 8);
        x.receive(0);
        check.due("offset by a T2 put byte by byte", x.offset(0), (0x0000010203040506L - 1000) / 2);
    }

    private static void putTakesLowestBytes() {
        StrataClient x = asked();
        x.put(Scene.ROOT_DELAY_AT, 0x7F11223300000004L, 4);
        x.put(Scene.ROOT_DISPERSION_AT, 0xABCDEF00L, 1);
        x.put(Scene.ROOT_DISPERSION_AT + 1, 0xABCDEF000102L, 3);
        x.receive(0);
        check.due("distance by what was put", x.distance(0), (2 + 0x102) * 65536 + Scene.LEAST_DISTANCE);
    }

    private static void putLeavesOtherBytes() {
        StrataClient x = asked();
        x.put(Scene.ROOT_DELAY_AT, 0x00010000, 4);
        x.put(Scene.ROOT_DELAY_AT + 2, 0x22, 1);
        x.put(Scene.ROOT_DELAY_AT + 3, 2, 1);
        x.receive(0);
        check.due("distance", x.distance(0), 0x00012202L / 2 * 65536 + Scene.LEAST_DISTANCE);
    }

    private static void putAtEdges() {
        StrataClient x = new StrataClient();
        for (int n = 1; n <= 8; n++) {
            x.put(0, -1, n);
            x.put(48 - n, -1, n);
        }
        x.run(1);
        x.send(3);
        x.put(0, 36, 1);
        x.put(1, 1, 1);
        x.put(Scene.ORIGIN_AT, 1, 8);
        x.put(Scene.T2_AT, 3, 8);
        x.put(47, 4, 1);
        check.due("receive with T3 -252", x.receive(3), StrataClient.SAMPLE);
        check.due("offset", x.offset(3), Math.floorDiv(2 - 253, 2));
    }

    private static void putRefuses() {
        StrataClient x = Scene.client();
        int[] wrongCounts = {0, 9, -1, Integer.MAX_VALUE, Integer.MIN_VALUE};
        for (int n : wrongCounts) {
            check.refused("put(0, 1, " + n + ")", IllegalArgumentException.class, () -> x.put(0, 1, n));
            check.refused("put(-1, 1, " + n + ")", IllegalArgumentException.class, () -> x.put(-1, 1, n));
            check.refused("put(48, 1, " + n + ")", IllegalArgumentException.class, () -> x.put(48, 1, n));
        }
        for (int n = 1; n <= 8; n++) {
            int count = n;
            int[] wrongPlaces = {-1, 49 - n, 48, Integer.MAX_VALUE, Integer.MAX_VALUE - n + 1, Integer.MIN_VALUE};
            for (int at : wrongPlaces) {
                check.refused("put(" + at + ", 1, " + n + ")", IndexOutOfBoundsException.class,
                    () -> x.put(at, 1, count));
            }
        }
    }

    private static void putRefusedChangesNothing() {
        StrataClient x = asked();
        check.refused("put over the end", IndexOutOfBoundsException.class, () -> x.put(44, -1, 5));
        check.refused("put before the beginning", IndexOutOfBoundsException.class, () -> x.put(-1, 0, 3));
        check.refused("put of nine", IllegalArgumentException.class, () -> x.put(32, -1, 9));
        check.due("receive", x.receive(0), StrataClient.SAMPLE);
        check.due("offset", x.offset(0), 500);
    }

    private static void echoFillsTimes() {
        StrataClient x = Scene.client();
        x.send(1);
        x.run(5000);
        x.send(2);
        x.put(0, 255, 1);
        x.echo(1, 70000, -3000);
        check.refused("an echo for another server", IllegalStateException.class, () -> x.receive(2));
        check.due("receive", x.receive(1), StrataClient.SAMPLE);
        check.due("offset", x.offset(1), (70000 - 3000) / 2);
        check.due("delay", x.delay(1), 5000 - (5000 - 3000 - 70000));
    }

    private static void echoWraps() {
        StrataClient x = Scene.client();
        x.send(0);
        x.echo(0, Long.MAX_VALUE, Long.MIN_VALUE + 1);
        check.due("receive of wrapped times", x.receive(0), StrataClient.SAMPLE);
        check.due("offset of wrapped times", x.offset(0), 0);
        check.due("delay of wrapped times", x.delay(0), 4096);
    }

    private static void echoLeavesOtherBytes() {
        StrataClient x = Scene.client();
        x.put(Scene.ROOT_DELAY_AT, 6, 4);
        x.put(Scene.ROOT_DISPERSION_AT, 7, 4);
        x.put(Scene.CODE_AT, Scene.RATE, 4);
        Scene.take(x, 0, 3);
        check.due("distance", x.distance(0), (3 + 7) * 65536 + Scene.LEAST_DISTANCE);
        x.send(0);
        x.put(1, 0, 1);
        x.echo(0, 3, 3);
        check.due("receive of a stratum that stayed", x.receive(0), StrataClient.KISS);
        check.due("poll by a code that stayed", x.poll(0), 7);
    }

    private static void echoRefuses() {
        StrataClient x = asked();
        int[] wrong = {-1, 5, Integer.MAX_VALUE, Integer.MIN_VALUE};
        for (int server : wrong) {
            check.refused("echo(" + server + ", ..)", IndexOutOfBoundsException.class, () -> x.echo(server, 1, 1));
        }
        check.refused("echo of a server not asked", IllegalStateException.class, () -> x.echo(4, 1, 1));
        check.due("the packet is as before", x.receive(0), StrataClient.SAMPLE);
        check.due("its offset too", x.offset(0), 500);
        check.refused("echo of a server that has answered", IllegalStateException.class, () -> x.echo(0, 1, 1));
    }

    /** Server 0 was asked at 1000 and the packet is its answer, with the offset 500. */
    private static StrataClient asked() {
        StrataClient x = Scene.client();
        x.send(0);
        x.echo(0, 500, 500);
        return x;
    }
}
