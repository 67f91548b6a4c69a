import java.util.NoSuchElementException;

/**
 * A client that asks servers for the time, finds the interval in which most of them agree, and sets
 * its clock by those that lie in it. All rows are made with the client: a call makes no object but what it throws.
 */
public final class StrataClient {
    public static final int SAMPLE = 0, UNSYNCHRONIZED = 1, KISS = 2, WILD = 3;
    public static final int SLEWED = 0, STEPPED = 1;

    private static final int SERVERS = 5;
    private static final long LONGEST_RUN = 1L << 40;
    private static final long RUN_PER_SLEW = 2048;
    private static final long WILD_BEYOND = 1L << 60;
    private static final long STEP_BEYOND = 536870912L;
    private static final long REFUSE_BEYOND = 4294967296000L;
    private static final long STEADY_JITTERS = 4;
    private static final long STEADY_AT_LEAST = 4096;

    private final Packet packet;
    private final Server[] servers;
    private final Vote vote;
    private long local;
    private long slew;
    private boolean wasSet;

    public StrataClient() {
        packet = new Packet();
        servers = new Server[SERVERS];
        for (int s = 0; s < SERVERS; s++) {
            servers[s] = new Server();
        }
        vote = new Vote();
        local = 0;
        slew = 0;
        wasSet = false;
    }

    public void run(long d) throws IllegalArgumentException {
        if (d < 0 || d > LONGEST_RUN) {
            throw new IllegalArgumentException();
        }
        long most = d / RUN_PER_SLEW;
        long part = Math.max(-most, Math.min(most, slew));
        local += d + part;
        slew -= part;
    }

    public long local() {
        return local;
    }

    public long slew() {
        return slew;
    }

    public void put(int at, long v, int n) throws IllegalArgumentException, IndexOutOfBoundsException {
        if (n < 1 || n > 8) {
            throw new IllegalArgumentException();
        }
        if (at < 0 || at > Packet.SIZE - n) {
            throw new IndexOutOfBoundsException();
        }
        packet.write(at, v, n);
    }

    public void echo(int server, long ahead, long back) throws IndexOutOfBoundsException, IllegalStateException {
        Server asked = serverAt(server);
        if (!asked.expecting) {
            throw new IllegalStateException();
        }
        packet.write(Packet.FLAGS, Packet.ANSWER_FLAGS, 1);
        packet.write(Packet.ORIGIN, asked.expected, 8);
        packet.write(Packet.T2, asked.expected + ahead, 8);
        packet.write(Packet.T3, local + back, 8);
    }

    public long send(int server) throws IndexOutOfBoundsException, IllegalStateException {
        Server asked = serverAt(server);
        if (asked.denied) {
            throw new IllegalStateException();
        }
        asked.expect(local);
        return local;
    }

    public int receive(int server) throws IndexOutOfBoundsException, IllegalArgumentException, IllegalStateException {
        Server from = serverAt(server);
        if (!packet.isAnswer()) {
            throw new IllegalArgumentException();
        }
        if (from.denied || !from.expecting || from.expected != packet.read(Packet.ORIGIN, 8)) {
            throw new IllegalStateException();
        }
        from.expecting = false;
        if (packet.stratum() == 0) {
            from.obey(packet.read(Packet.CODE, 4));
            return KISS;
        }
        if (!packet.isSynchronized()) {
            return UNSYNCHRONIZED;
        }
        return takeTimes(from);
    }

    public int reach(int server) throws IndexOutOfBoundsException {
        Server asked = serverAt(server);
        return asked.denied ? asked.reach + 256 : asked.reach;
    }

    public int poll(int server) throws IndexOutOfBoundsException {
        return serverAt(server).poll;
    }

    public int samples(int server) throws IndexOutOfBoundsException {
        return serverAt(server).count;
    }

    public long offset(int server) throws IndexOutOfBoundsException, NoSuchElementException {
        return sampledAt(server).bestOffset(local);
    }

    public long delay(int server) throws IndexOutOfBoundsException, NoSuchElementException {
        return sampledAt(server).bestDelay(local);
    }

    public long jitter(int server) throws IndexOutOfBoundsException, NoSuchElementException {
        return sampledAt(server).jitterAt(local);
    }

    public long distance(int server) throws IndexOutOfBoundsException, NoSuchElementException {
        return sampledAt(server).rootDistance(local);
    }

    public int candidates() {
        vote.hold(servers, local);
        return vote.candidates;
    }

    public long low() throws NoSuchElementException {
        vote.hold(servers, local);
        if (!vote.hasMajority()) {
            throw new NoSuchElementException();
        }
        return vote.low;
    }

    public long high() throws NoSuchElementException {
        vote.hold(servers, local);
        if (!vote.hasMajority()) {
            throw new NoSuchElementException();
        }
        return vote.high;
    }

    public int survivors() {
        vote.hold(servers, local);
        return vote.survivors;
    }

    public int peer() throws NoSuchElementException {
        vote.hold(servers, local);
        if (!vote.agrees()) {
            throw new NoSuchElementException();
        }
        return vote.choosePeer(servers);
    }

    public int update() throws IllegalStateException, UnsupportedOperationException {
        vote.hold(servers, local);
        if (!vote.agrees()) {
            throw new IllegalStateException();
        }
        long c = vote.combinedOffset();
        long size = Math.abs(c);
        if (size > REFUSE_BEYOND && wasSet) {
            throw new UnsupportedOperationException();
        }
        wasSet = true;
        if (size > STEP_BEYOND) {
            stepBy(c);
            return STEPPED;
        }
        slew = c;
        tunePolls(size);
        return SLEWED;
    }

    private Server serverAt(int server) {
        if (server < 0 || server >= SERVERS) {
            throw new IndexOutOfBoundsException();
        }
        return servers[server];
    }

    private Server sampledAt(int server) {
        Server asked = serverAt(server);
        if (asked.count == 0) {
            throw new NoSuchElementException();
        }
        return asked;
    }

    private int takeTimes(Server from) {
        long t1 = from.expected;
        long t2 = packet.read(Packet.T2, 8);
        long t3 = packet.read(Packet.T3, 8);
        long t4 = local;
        long newOffset = halfOfSum(t2 - t1, t3 - t4);
        long newDelay = Math.max(Server.LEAST_DELAY, (t4 - t1) - (t3 - t2));
        if (newOffset < -WILD_BEYOND || newOffset > WILD_BEYOND || newDelay > WILD_BEYOND) {
            return WILD;
        }
        from.keepRoot(packet.stratum(), packet.rootDelay(), packet.rootDispersion());
        from.keepSample(newOffset, newDelay, t4);
        return SAMPLE;
    }

    /** The sum itself may not fit a long: it is twice the common bits plus the others. */
    private static long halfOfSum(long a, long b) {
        return (a & b) + ((a ^ b) >> 1);
    }

    private void stepBy(long c) {
        local += c;
        slew = 0;
        for (int s = 0; s < SERVERS; s++) {
            servers[s].forget();
        }
    }

    private void tunePolls(long size) {
        long peerJitter = servers[vote.choosePeer(servers)].jitterAt(local);
        boolean steady = size <= STEADY_JITTERS * peerJitter + STEADY_AT_LEAST;
        for (int s = 0; s < SERVERS; s++) {
            if (!steady) {
                servers[s].pollSooner();
            } else if (Vote.has(vote.survivors, s)) {
                servers[s].pollLater();
            }
        }
    }

    /** The row of 48 bytes that came from a server, the highest byte of a number first. */
    private static final class Packet {
        static final int SIZE = 48;
        static final int FLAGS = 0, STRATUM = 1, ROOT_DELAY = 4, ROOT_DISPERSION = 8;
        static final int CODE = 12, ORIGIN = 24, T2 = 32, T3 = 40;
        static final int ANSWER_FLAGS = 36;

        private static final int NO_LEAP_KNOWN = 3, VERSION = 4, SERVER_MODE = 4, LAST_STRATUM = 15;
        private static final long ROOT_UNIT = 65536;

        private final byte[] row;

        Packet() {
            row = new byte[SIZE];
        }

        void write(int at, long v, int n) {
            for (int i = 0; i < n; i++) {
                row[at + i] = (byte) (v >> (8 * (n - 1 - i)));
            }
        }

        long read(int at, int n) {
            long v = 0;
            for (int i = 0; i < n; i++) {
                v = (v << 8) | (row[at + i] & 255);
            }
            return v;
        }

        boolean isAnswer() {
            int flags = row[FLAGS] & 255;
            return ((flags >> 3) & 7) == VERSION && (flags & 7) == SERVER_MODE && read(T3, 8) != 0;
        }

        boolean isSynchronized() {
            return (row[FLAGS] & 255) >> 6 != NO_LEAP_KNOWN && stratum() <= LAST_STRATUM;
        }

        int stratum() {
            return row[STRATUM] & 255;
        }

        long rootDelay() {
            return read(ROOT_DELAY, 4) * ROOT_UNIT;
        }

        long rootDispersion() {
            return read(ROOT_DISPERSION, 4) * ROOT_UNIT;
        }
    }

    /** What the client knows of one server; sample 0 is the newest. */
    private static final class Server {
        static final long LEAST_DELAY = 4096;

        private static final int MOST_SAMPLES = 8;
        private static final int FIRST_POLL = 6, LEAST_POLL = 4, MOST_POLL = 10;
        private static final long DENY = 0x44454E59L, RSTR = 0x52535452L, RATE = 0x52415445L;
        private static final long NEW_DISPERSION = 65536, AGE_PER_DISPERSION = 65536;

        boolean denied;
        int reach;
        int poll;
        boolean expecting;
        long expected;
        int count;
        int stratum;
        private long rootDelay;
        private long rootDispersion;
        private final long[] offsets;
        private final long[] delays;
        private final long[] arrivals;

        Server() {
            denied = false;
            reach = 0;
            poll = FIRST_POLL;
            expecting = false;
            expected = 0;
            count = 0;
            stratum = 0;
            rootDelay = 0;
            rootDispersion = 0;
            offsets = new long[MOST_SAMPLES];
            delays = new long[MOST_SAMPLES];
            arrivals = new long[MOST_SAMPLES];
        }

        void expect(long time) {
            reach = reach * 2 % 256;
            expecting = true;
            expected = time;
        }

        void obey(long code) {
            if (code == DENY || code == RSTR) {
                denied = true;
            } else if (code == RATE) {
                pollLater();
            }
        }

        void pollLater() {
            poll = Math.min(MOST_POLL, poll + 1);
        }

        void pollSooner() {
            poll = Math.max(LEAST_POLL, poll - 1);
        }

        void keepRoot(int newStratum, long newRootDelay, long newRootDispersion) {
            stratum = newStratum;
            rootDelay = newRootDelay;
            rootDispersion = newRootDispersion;
        }

        void keepSample(long newOffset, long newDelay, long time) {
            reach = reach | 1;
            count = Math.min(MOST_SAMPLES, count + 1);
            for (int i = count - 1; i > 0; i--) {
                offsets[i] = offsets[i - 1];
                delays[i] = delays[i - 1];
                arrivals[i] = arrivals[i - 1];
            }
            offsets[0] = newOffset;
            delays[0] = newDelay;
            arrivals[0] = time;
        }

        void forget() {
            expecting = false;
            count = 0;
            reach = 0;
        }

        long bestOffset(long now) {
            return offsets[bestAt(now)];
        }

        long bestDelay(long now) {
            return delays[bestAt(now)];
        }

        long jitterAt(long now) {
            return farthestFrom(offsets[bestAt(now)]);
        }

        long rootDistance(long now) {
            int best = bestAt(now);
            return rootDelay / 2 + distanceOf(best, now) + rootDispersion + farthestFrom(offsets[best]);
        }

        private int bestAt(long now) {
            int best = 0;
            for (int i = 1; i < count; i++) {
                if (distanceOf(i, now) < distanceOf(best, now)) {
                    best = i;
                }
            }
            return best;
        }

        private long distanceOf(int i, long now) {
            long age = now - arrivals[i];
            return delays[i] / 2 + NEW_DISPERSION + Math.floorDiv(age, AGE_PER_DISPERSION);
        }

        private long farthestFrom(long middle) {
            long most = 0;
            for (int i = 0; i < count; i++) {
                most = Math.max(most, Math.abs(offsets[i] - middle));
            }
            return most;
        }
    }

    /** Which servers agree at a time; sets of servers have server s as the bit 2^s. */
    private static final class Vote {
        private static final long DISTANCE_LIMIT = 6442450944L;
        private static final int MOST_SURVIVORS = 3;
        /** No interval reaches it: offsets end at 2^60 and distances at the limit. */
        private static final long BEYOND_ALL = 1L << 62;

        int candidates;
        long low;
        long high;
        int survivors;
        private final long[] offsets;
        private final long[] distances;

        Vote() {
            candidates = 0;
            low = BEYOND_ALL;
            high = -BEYOND_ALL;
            survivors = 0;
            offsets = new long[SERVERS];
            distances = new long[SERVERS];
        }

        static boolean has(int set, int s) {
            return ((set >> s) & 1) != 0;
        }

        void hold(Server[] servers, long now) {
            findCandidates(servers, now);
            findBounds();
            findSurvivors();
        }

        boolean hasMajority() {
            return low <= high;
        }

        boolean agrees() {
            return hasMajority() && survivors != 0;
        }

        int choosePeer(Server[] servers) {
            int best = -1;
            for (int s = 0; s < SERVERS; s++) {
                if (has(survivors, s) && (best < 0 || isBetter(servers, s, best))) {
                    best = s;
                }
            }
            return Math.max(0, best);
        }

        long combinedOffset() {
            long sum = 0;
            for (int s = 0; s < SERVERS; s++) {
                if (has(survivors, s)) {
                    sum += offsets[s];
                }
            }
            return Math.floorDiv(sum, (long) Math.max(1, Integer.bitCount(survivors)));
        }

        private void findCandidates(Server[] servers, long now) {
            candidates = 0;
            for (int s = 0; s < SERVERS; s++) {
                Server server = servers[s];
                if (!server.denied && server.reach != 0 && server.count != 0) {
                    offsets[s] = server.bestOffset(now);
                    distances[s] = server.rootDistance(now);
                    if (distances[s] < DISTANCE_LIMIT) {
                        candidates |= 1 << s;
                    }
                }
            }
        }

        /** The least long in most intervals is where one of them begins, the greatest where one ends. */
        private void findBounds() {
            low = BEYOND_ALL;
            high = -BEYOND_ALL;
            for (int s = 0; s < SERVERS; s++) {
                if (has(candidates, s)) {
                    long start = offsets[s] - distances[s];
                    long end = offsets[s] + distances[s];
                    low = isInMost(start) ? Math.min(low, start) : low;
                    high = isInMost(end) ? Math.max(high, end) : high;
                }
            }
        }

        private boolean isInMost(long time) {
            int holders = 0;
            for (int s = 0; s < SERVERS; s++) {
                if (has(candidates, s) && Math.abs(time - offsets[s]) <= distances[s]) {
                    holders++;
                }
            }
            return 2 * holders > Integer.bitCount(candidates);
        }

        private void findSurvivors() {
            survivors = 0;
            for (int s = 0; s < SERVERS; s++) {
                if (has(candidates, s) && offsets[s] >= low && offsets[s] <= high) {
                    survivors |= 1 << s;
                }
            }
            for (int left = Integer.bitCount(survivors); left > MOST_SURVIVORS; left--) {
                survivors &= ~(1 << findFarthest());
            }
        }

        private int findFarthest() {
            int farthest = 0;
            long most = -1;
            for (int s = 0; s < SERVERS; s++) {
                if (has(survivors, s) && spreadOf(s) >= most) {
                    farthest = s;
                    most = spreadOf(s);
                }
            }
            return farthest;
        }

        private long spreadOf(int s) {
            long sum = 0;
            for (int other = 0; other < SERVERS; other++) {
                if (has(survivors, other)) {
                    sum += Math.abs(offsets[s] - offsets[other]);
                }
            }
            return sum;
        }

        private boolean isBetter(Server[] servers, int s, int than) {
            int mine = servers[s].stratum;
            int its = servers[than].stratum;
            return mine < its || (mine == its && distances[s] < distances[than]);
        }
    }
}
