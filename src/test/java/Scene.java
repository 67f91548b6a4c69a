import java.util.NoSuchElementException;
import java.util.function.LongSupplier;

/** What the tests do with a client again and again. */
final class Scene {
    static final int SERVERS = 5;
    static final int STRATUM_AT = 1, ROOT_DELAY_AT = 4, ROOT_DISPERSION_AT = 8, CODE_AT = 12;
    static final int ORIGIN_AT = 24, T2_AT = 32, T3_AT = 40;
    static final long DENY = 0x44454E59L, RSTR = 0x52535452L, RATE = 0x52415445L;
    /** Of a server with one new sample of the least delay and nothing else. */
    static final long LEAST_DISTANCE = 2048 + 65536;

    private Scene() {
    }

    /** A client at LOCAL 1000 whose packet has the stratum 1, so that an echo is fit to be received. */
    static StrataClient client() {
        StrataClient x = new StrataClient();
        x.run(1000);
        x.put(STRATUM_AT, 1, 1);
        return x;
    }

    /** Asks a server and takes its answer, which has an offset and a delay (an even one) as told. */
    static int take(StrataClient x, int server, long offset, long delay) {
        x.send(server);
        x.echo(server, offset + delay / 2, offset - delay / 2);
        return x.receive(server);
    }

    static int take(StrataClient x, int server, long offset) {
        return take(x, server, offset, 0);
    }

    /** Takes one sample from each of the servers 0, 1, .. with these offsets. */
    static StrataClient clientWith(long... offsets) {
        StrataClient x = client();
        for (int s = 0; s < offsets.length; s++) {
            take(x, s, offsets[s]);
        }
        return x;
    }

    static int kiss(StrataClient x, int server, long code) {
        x.send(server);
        x.echo(server, 5, 5);
        x.put(STRATUM_AT, 0, 1);
        x.put(CODE_AT, code, 4);
        int answer = x.receive(server);
        x.put(STRATUM_AT, 1, 1);
        return answer;
    }

    static String answers(StrataClient x) {
        StringBuilder all = new StringBuilder();
        all.append("local ").append(x.local()).append(" slew ").append(x.slew());
        for (int s = 0; s < SERVERS; s++) {
            int server = s;
            all.append(" | ").append(x.reach(s)).append(' ').append(x.poll(s)).append(' ').append(x.samples(s));
            all.append(' ').append(orNone(() -> x.offset(server))).append(' ').append(orNone(() -> x.delay(server)));
            all.append(' ').append(orNone(() -> x.jitter(server))).append(' ').append(orNone(() -> x.distance(server)));
        }
        all.append(" | ").append(x.candidates()).append(' ').append(orNone(x::low)).append(' ').append(orNone(x::high));
        all.append(' ').append(x.survivors()).append(' ').append(orNone(x::peer));
        return all.toString();
    }

    private static String orNone(LongSupplier call) {
        try {
            return Long.toString(call.getAsLong());
        } catch (NoSuchElementException e) {
            return "none";
        }
    }
}
