import java.util.function.LongSupplier;

/** What the tests do with a client again and again. */
final class Scene {
    static final int SERVERS = 5;
    static final int FLAGS_AT = 0, STRATUM_AT = 1, ROOT_DELAY_AT = 4, ROOT_DISPERSION_AT = 8, CODE_AT = 12;
    static final int ORIGIN_AT = 24, T2_AT = 32, T3_AT = 40;
    static final long DENY = 0x44454E59L, RSTR = 0x52535452L, RATE = 0x52415445L;
    /** Of a server with one new sample of the least delay and nothing else. */
    static final long LEAST_DISTANCE = 2048 + 65536;
    static final int[] WRONG_SERVERS = {-1, 5, 6, Integer.MAX_VALUE, Integer.MIN_VALUE, 256, -256};
    /** When the servers 0, 1 and 2 of a busy client were asked. */
    private static final long[] BUSY_TIMES = {50040, 50020, 50030};

    private Scene() {
    }

    /** A client at LOCAL 1000 whose packet has the stratum 1, so that an echo is fit to be received. */
    static StrataClient client() {
        StrataClient x = new StrataClient();
        x.run(1000);
        x.put(STRATUM_AT, 1, 1);
        return x;
    }

    /** Asks a server and takes its answer at once: T2 - T1 is ahead, T3 - T4 is back, the delay their difference. */
    static int takeTimes(StrataClient x, int server, long ahead, long back) {
        x.send(server);
        x.echo(server, ahead, back);
        return x.receive(server);
    }

    /** Asks a server and takes its answer, which has an offset and a delay (an even one) as told. */
    static int take(StrataClient x, int server, long offset, long delay) {
        return takeTimes(x, server, offset + delay / 2, offset - delay / 2);
    }

    static int take(StrataClient x, int server, long offset) {
        return take(x, server, offset, 0);
    }

    /** Takes one sample from each of the servers 0, 1, .. with these offsets. */
    static StrataClient clientWith(long... offsets) {
        StrataClient x = client();
        for (int s = 0; s < offsets.length; s++) {
            take(x, s, offsets[s]);
        }
        return x;
    }

    /** Server 0 was asked at 1000 and the packet is its answer, with the offset 500. */
    static StrataClient answered() {
        StrataClient x = client();
        x.send(0);
        x.echo(0, 500, 500);
        return x;
    }

    static int kiss(StrataClient x, int server, long code) {
        x.send(server);
        x.echo(server, 5, 5);
        x.put(STRATUM_AT, 0, 1);
        x.put(CODE_AT, code, 4);
        int answer = x.receive(server);
        x.put(STRATUM_AT, 1, 1);
        return answer;
    }

    /**
     * A client with something of everything: 0 to 2 have samples and are asked, 3 has one and is denied, 4 was never
     * asked; the clock was set, there is a slew, and the packet is an answer of server 0.
     */
    static StrataClient busy() {
        StrataClient x = client();
        take(x, 3, 70);
        kiss(x, 3, DENY);
        x.put(CODE_AT, RATE, 4);
        x.put(ROOT_DELAY_AT, 3, 4);
        x.put(ROOT_DISPERSION_AT, 5, 4);
        for (int s = 0; s < 3; s++) {
            take(x, s, 3000 + s, 8192);
            take(x, s, 3100 + s, 9000);
        }
        x.update();
        x.run(50020 - 1000 - 23); // the slew gives the last 23
        x.send(1);
        x.run(10);
        x.send(2);
        x.run(10);
        x.send(0);
        x.run(10);
        x.echo(0, 7000, 900);
        return x;
    }

    static String answers(StrataClient x) {
        StringBuilder all = new StringBuilder();
        all.append("local ").append(x.local()).append(" slew ").append(x.slew());
        for (int s = 0; s < SERVERS; s++) {
            int server = s;
            all.append(" | ").append(x.reach(s)).append(' ').append(x.poll(s)).append(' ').append(x.samples(s));
            all.append(' ').append(outcome(() -> x.offset(server))).append(' ').append(outcome(() -> x.delay(server)));
            all.append(' ').append(outcome(() -> x.jitter(server)));
            all.append(' ').append(outcome(() -> x.distance(server)));
        }
        all.append(" | ").append(x.candidates()).append(' ').append(outcome(x::low)).append(' ');
        return all.append(outcome(x::high)).append(' ').append(x.survivors()).append(' ').append(outcome(x::peer))
            .toString();
    }

    /** Also what no answer tells of itself, the packet as it is and whether the clock was set; the client is used up. */
    static String everything(StrataClient x) {
        StringBuilder all = new StringBuilder(answers(x));
        receiveAll(x, all);
        all.append(answers(x));
        x.put(FLAGS_AT, 36, 1);
        x.put(T3_AT + 7, 1, 1);
        for (long time : BUSY_TIMES) {
            x.put(ORIGIN_AT, time, 8);
            receiveAll(x, all);
        }
        all.append(answers(x)).append(outcome(x::update)).append(" and stratum 0 ");
        x.put(STRATUM_AT, 0, 1);
        all.append(outcome(() -> takeTimes(x, 4, 1, 1))).append(' ').append(x.poll(4)).append(' ').append(x.reach(4));
        x.put(STRATUM_AT, 1, 1);
        for (int s = 0; s < SERVERS; s++) {
            int server = s;
            all.append(' ').append(outcome(() -> take(x, server, 1L << 50)));
        }
        return all.append(' ').append(outcome(x::update)).append(' ').append(x.local()).toString();
    }

    private static void receiveAll(StrataClient x, StringBuilder all) {
        for (int s = 0; s < SERVERS; s++) {
            int server = s;
            all.append(" receive ").append(outcome(() -> x.receive(server)));
        }
    }

    /** Which servers have an expected time, and by the offset for a T2 of 0, which one; the client is used up. */
    static String expectedTimes(StrataClient x) {
        StringBuilder all = new StringBuilder();
        x.put(STRATUM_AT, 1, 1);
        for (int s = 0; s < SERVERS; s++) {
            int server = s;
            all.append(" expected ").append(outcome(() -> {
                x.echo(server, 1, 1);
                x.put(T2_AT, 0, 8);
                return x.receive(server);
            }));
        }
        return all.append(answers(x)).toString();
    }

    /** The answer, or the name of what was thrown. */
    static String outcome(LongSupplier call) {
        try {
            return Long.toString(call.getAsLong());
        } catch (RuntimeException e) {
            return e.getClass().getSimpleName();
        }
    }
}
