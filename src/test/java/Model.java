import java.math.BigInteger;
import java.util.ArrayList;
import java.util.Comparator;
import java.util.List;
import java.util.NoSuchElementException;

/**
 * The document once more, with numbers that never wrap unless they are told to, and as slow as it likes:
 * ModelTest compares the client with it. Not one line is shared with the client.
 */
public final class Model {
    private record Sample(BigInteger offset, BigInteger delay, BigInteger came) {
    }

    private static final class Server {
        boolean denied = false;
        int reach = 0;
        int poll = 6;
        Long expected = null;
        List<Sample> samples = new ArrayList<>();
        int stratum = 0;
        BigInteger rootDelay = BigInteger.ZERO;
        BigInteger rootDispersion = BigInteger.ZERO;
        int number;
    }

    private static final BigInteger TWO = BigInteger.TWO;
    private static final BigInteger FAR = TWO.pow(60);

    private final String[] packet = new String[48];
    private final List<Server> servers = new ArrayList<>();
    private long local = 0;
    private BigInteger slew = BigInteger.ZERO;
    private boolean set = false;

    public Model() {
        for (int i = 0; i < 48; i++) {
            packet[i] = "00";
        }
        for (int i = 0; i < 5; i++) {
            Server s = new Server();
            s.number = i;
            servers.add(s);
        }
    }

    public void run(long d) {
        if (big(d).signum() < 0 || big(d).compareTo(TWO.pow(40)) > 0) {
            throw new IllegalArgumentException();
        }
        BigInteger part = slew.abs().min(big(d / 2048)).multiply(big(slew.signum()));
        local = big(local).add(big(d)).add(part).longValue();
        slew = slew.subtract(part);
    }

    public long local() {
        return local;
    }

    public long slew() {
        return slew.longValueExact();
    }

    public void put(int at, long v, int n) {
        if (n < 1 || n > 8) {
            throw new IllegalArgumentException();
        }
        if (at < 0 || (long) at + n > 48) {
            throw new IndexOutOfBoundsException();
        }
        String digits = String.format("%016x", v);
        for (int i = 0; i < n; i++) {
            int from = 16 - 2 * n + 2 * i;
            packet[at + i] = digits.substring(from, from + 2);
        }
    }

    public void echo(int server, long ahead, long back) {
        Server s = server(server);
        if (s.expected == null) {
            throw new IllegalStateException();
        }
        put(0, 36, 1);
        put(24, s.expected, 8);
        put(32, s.expected + ahead, 8);
        put(40, local + back, 8);
    }

    public long send(int server) {
        Server s = server(server);
        if (s.denied) {
            throw new IllegalStateException();
        }
        s.reach = s.reach * 2 % 256;
        s.expected = local;
        return local;
    }

    public int receive(int server) {
        Server s = server(server);
        int flags = number(0, 1).intValueExact();
        if (flags / 8 % 8 != 4 || flags % 8 != 4 || number(40, 8).signum() == 0) {
            throw new IllegalArgumentException();
        }
        if (s.denied || s.expected == null || number(24, 8).longValue() != s.expected) {
            throw new IllegalStateException();
        }
        BigInteger t1 = big(s.expected);
        s.expected = null;
        int stratum = number(1, 1).intValueExact();
        if (stratum == 0) {
            kiss(s);
            return 2;
        }
        if (flags / 64 == 3 || stratum > 15) {
            return 1;
        }
        return times(s, stratum, t1);
    }

    private void kiss(Server s) {
        StringBuilder code = new StringBuilder();
        for (int i = 12; i < 16; i++) {
            code.append((char) Integer.parseInt(packet[i], 16));
        }
        switch (code.toString()) {
            case "DENY", "RSTR" -> s.denied = true;
            case "RATE" -> s.poll = s.poll < 10 ? s.poll + 1 : 10;
            default -> { }
        }
    }

    private int times(Server s, int stratum, BigInteger t1) {
        BigInteger t2 = number(32, 8);
        BigInteger t3 = number(40, 8);
        BigInteger t4 = big(local);
        BigInteger offset = half(wrap(t2.subtract(t1)).add(wrap(t3.subtract(t4))));
        BigInteger delay = wrap(t4.subtract(t1).subtract(t3.subtract(t2))).max(big(4096));
        if (offset.abs().compareTo(FAR) > 0 || delay.compareTo(FAR) > 0) {
            return 3;
        }
        s.stratum = stratum;
        s.rootDelay = number(4, 4).shiftLeft(16);
        s.rootDispersion = number(8, 4).shiftLeft(16);
        s.reach += s.reach % 2 == 0 ? 1 : 0;
        s.samples.add(0, new Sample(offset, delay, t4));
        if (s.samples.size() > 8) {
            s.samples.remove(8);
        }
        return 0;
    }

    public int reach(int server) {
        Server s = server(server);
        return s.reach + (s.denied ? 256 : 0);
    }

    public int poll(int server) {
        return server(server).poll;
    }

    public int samples(int server) {
        return server(server).samples.size();
    }

    public long offset(int server) {
        return best(sampled(server)).offset.longValueExact();
    }

    public long delay(int server) {
        return best(sampled(server)).delay.longValueExact();
    }

    public long jitter(int server) {
        return jitter(sampled(server)).longValueExact();
    }

    public long distance(int server) {
        return distance(sampled(server)).longValueExact();
    }

    public int candidates() {
        return bits(candidateList());
    }

    public long low() {
        return majority().get(0).longValueExact();
    }

    public long high() {
        List<BigInteger> all = majority();
        return all.get(all.size() - 1).longValueExact();
    }

    public int survivors() {
        return bits(survivorList());
    }

    public int peer() {
        return peerOf(survivorList()).number;
    }

    public int update() {
        List<Server> survivors = survivorList();
        if (survivors.isEmpty()) {
            throw new IllegalStateException();
        }
        BigInteger sum = BigInteger.ZERO;
        for (Server s : survivors) {
            sum = sum.add(best(s).offset);
        }
        BigInteger[] parts = sum.divideAndRemainder(big(survivors.size()));
        BigInteger c = parts[1].signum() < 0 ? parts[0].subtract(BigInteger.ONE) : parts[0];
        if (set && c.abs().compareTo(big(4294967296000L)) > 0) {
            throw new UnsupportedOperationException();
        }
        set = true;
        if (c.abs().compareTo(big(536870912)) > 0) {
            local = big(local).add(c).longValue();
            slew = BigInteger.ZERO;
            for (Server s : servers) {
                s.expected = null;
                s.samples = new ArrayList<>();
                s.reach = 0;
            }
            return 1;
        }
        slew = c;
        if (c.abs().compareTo(jitter(peerOf(survivors)).multiply(big(4)).add(big(4096))) <= 0) {
            survivors.forEach(s -> s.poll = s.poll == 10 ? 10 : s.poll + 1);
        } else {
            servers.forEach(s -> s.poll = s.poll == 4 ? 4 : s.poll - 1);
        }
        return 0;
    }

    private Server server(int server) {
        if (server < 0 || server > 4) {
            throw new IndexOutOfBoundsException();
        }
        return servers.get(server);
    }

    private Server sampled(int server) {
        Server s = server(server);
        if (s.samples.isEmpty()) {
            throw new NoSuchElementException();
        }
        return s;
    }

    private BigInteger dispersion(Sample sample) {
        return big(65536).add(wrap(big(local).subtract(sample.came)).shiftRight(16));
    }

    private Sample best(Server s) {
        // min() answers the first one of equals, and the newest stands first.
        return s.samples.stream().min(Comparator.comparing((Sample i) -> half(i.delay).add(dispersion(i)))).get();
    }

    private BigInteger jitter(Server s) {
        BigInteger middle = best(s).offset;
        return s.samples.stream().map(i -> i.offset.subtract(middle).abs()).max(Comparator.naturalOrder()).get();
    }

    private BigInteger distance(Server s) {
        Sample best = best(s);
        return half(s.rootDelay).add(half(best.delay)).add(s.rootDispersion).add(dispersion(best)).add(jitter(s));
    }

    private List<Server> candidateList() {
        return servers.stream().filter(s -> !s.denied && s.reach > 0 && !s.samples.isEmpty())
            .filter(s -> distance(s).compareTo(big(6442450944L)) < 0).toList();
    }

    /** Of all ends of intervals, those in more than half of the intervals, in order. */
    private List<BigInteger> majority() {
        List<Server> all = candidateList();
        List<BigInteger> ends = new ArrayList<>();
        for (Server s : all) {
            ends.add(best(s).offset.subtract(distance(s)));
            ends.add(best(s).offset.add(distance(s)));
        }
        List<BigInteger> most = ends.stream().sorted().filter(e -> all.stream().filter(s ->
            best(s).offset.subtract(distance(s)).compareTo(e) <= 0
                && best(s).offset.add(distance(s)).compareTo(e) >= 0).count() * 2 > all.size()).toList();
        if (most.isEmpty()) {
            throw new NoSuchElementException();
        }
        return most;
    }

    private List<Server> survivorList() {
        BigInteger low;
        BigInteger high;
        try {
            low = big(low());
            high = big(high());
        } catch (NoSuchElementException e) {
            return List.of();
        }
        List<Server> left = new ArrayList<>(candidateList());
        left.removeIf(s -> best(s).offset.compareTo(low) < 0 || best(s).offset.compareTo(high) > 0);
        while (left.size() > 3) {
            List<Server> now = left;
            Comparator<Server> byLeaving = Comparator.comparing((Server s) -> now.stream()
                .map(o -> o == s ? BigInteger.ZERO : best(o).offset.subtract(best(s).offset).abs())
                .reduce(BigInteger.ZERO, BigInteger::add));
            left.remove(now.stream().max(byLeaving.thenComparing(s -> s.number)).get());
        }
        return left;
    }

    private Server peerOf(List<Server> survivors) {
        return survivors.stream().min(Comparator.comparing((Server s) -> s.stratum).thenComparing(this::distance)
            .thenComparing(s -> s.number)).orElseThrow();
    }

    private BigInteger number(int at, int n) {
        StringBuilder digits = new StringBuilder();
        for (int i = 0; i < n; i++) {
            digits.append(packet[at + i]);
        }
        return new BigInteger(digits.toString(), 16);
    }

    private static int bits(List<Server> some) {
        return some.stream().mapToInt(s -> 1 << s.number).sum();
    }

    private static BigInteger big(long v) {
        return BigInteger.valueOf(v);
    }

    private static BigInteger half(BigInteger v) {
        return v.shiftRight(1);
    }

    private static BigInteger wrap(BigInteger v) {
        return big(v.longValue());
    }
}
