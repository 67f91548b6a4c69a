import java.lang.reflect.InvocationTargetException;
import java.lang.reflect.Method;
import java.util.ArrayList;
import java.util.HashMap;
import java.util.List;
import java.util.Map;
import java.util.Random;
import java.util.TreeMap;

/** Long runs of calls, the same in every run of this test, on the client and on the model: the answers must be equal. */
public final class ModelTest {
    private static final Check check = new Check();
    private static final int RUNS = 300;
    private static final int CALLS = 512;
    private static final long[] EDGES = {0, 1, -1, 4095, 4096, 4097, 536870912L, 536870913L, 4294967296000L,
        4294967296001L, 1L << 59, (1L << 59) + 1, 1L << 60, (1L << 60) + 1, 1L << 62, Long.MAX_VALUE, Long.MIN_VALUE};
    private static final String[] BY_SERVER = {"reach", "poll", "samples", "offset", "delay", "jitter", "distance"};
    private static final String[] BY_NOBODY = {"local", "slew", "candidates", "low", "high", "survivors", "peer"};
    /** How often each call got each kind of answer: a test that never saw one would say too little. */
    private static final Map<String, Integer> seen = new TreeMap<>();
    private static final Map<String, Method> methods = new HashMap<>();

    private final Random random;
    private final StrataClient client = new StrataClient();
    private final Model model = new Model();
    private final List<String> calls = new ArrayList<>();
    private final long centre;
    private final int scatter;
    private boolean same = true;

    private ModelTest(long seed) {
        random = new Random(seed);
        centre = random.nextInt(3) == 0 ? edge() : random.nextInt(3) == 0 ? random.nextInt(1 << 30) - (1 << 29)
            : random.nextInt(40000) - 20000;
        scatter = 1 << (1 + random.nextInt(20));
    }

    public static void main(String[] args) {
        for (int seed = 0; seed < RUNS; seed++) {
            new ModelTest(seed).wholeRun();
        }
        everyKindWasSeen();
        check.end();
    }

    private static void everyKindWasSeen() {
        String[] kinds = {"run throws", "put throws.Ill", "put throws.Ind", "echo throws.Ind", "echo throws.Ill",
            "send throws.Ind", "send throws.Ill", "receive 0", "receive 1", "receive 2", "receive 3",
            "receive throws.Ind", "receive throws.IllegalA", "receive throws.IllegalS", "low throws", "low -", "high throws",
            "peer throws", "peer 0", "peer 4", "update 0", "update 1", "update throws.Ill", "update throws.Uns",
            "survivors 0", "survivors 7", "survivors 28", "candidates 31", "samples 8", "poll 4", "poll 10", "reach 255"};
        for (String kind : kinds) {
            int count = 0;
            for (Map.Entry<String, Integer> e : seen.entrySet()) {
                count += e.getKey().startsWith(kind) ? e.getValue() : 0;
            }
            check.due("was seen: " + kind, count > 0 ? 1 : 0, 1);
        }
    }

    private void wholeRun() {
        while (same && calls.size() < CALLS - 6) {
            int kind = random.nextInt(20);
            if (kind < 8) {
                sample();
            } else if (kind < 10) {
                call("update");
            } else if (kind < 16) {
                ask();
            } else if (kind < 18) {
                call("run", random.nextInt(4) == 0 ? edge() : (long) (random.nextDouble() * (1L << random.nextInt(41))));
            } else {
                oddOne();
            }
        }
    }

    private void sample() {
        int server = server();
        call("send", server);
        if (random.nextInt(3) == 0) {
            call("run", (long) random.nextInt(200000));
        }
        call("put", 1, (long) stratum(), 1);
        long offset = random.nextInt(12) == 0 ? edge() : centre + random.nextInt(scatter);
        long delay = random.nextInt(12) == 0 ? edge() : random.nextInt(scatter);
        call("echo", server, offset + delay / 2, offset - delay / 2 + random.nextInt(2));
        if (random.nextInt(15) == 0) {
            long[] codes = {Scene.DENY, Scene.RSTR, Scene.RATE, Scene.RATE, Scene.RATE, Scene.RATE, 77};
            call("put", 12, codes[random.nextInt(codes.length)], 4);
        }
        call("receive", server);
    }

    private int stratum() {
        int kind = random.nextInt(30);
        return kind == 0 ? 0 : kind == 1 ? 15 + random.nextInt(3) : 1 + random.nextInt(3);
    }

    private void ask() {
        if (random.nextBoolean()) {
            call(BY_NOBODY[random.nextInt(BY_NOBODY.length)]);
        } else {
            call(BY_SERVER[random.nextInt(BY_SERVER.length)], server());
        }
    }

    private void oddOne() {
        switch (random.nextInt(6)) {
            case 0 -> call("put", random.nextInt(50) - 1, random.nextLong(), random.nextInt(10));
            case 1 -> call("put", 0, (long) (random.nextInt(4) * 64 + 36), 1);
            case 2 -> call("put", 4, (long) random.nextInt(1 << random.nextInt(18)), 4);
            case 3 -> call("put", 8, (long) random.nextInt(1 << random.nextInt(17)), 4);
            case 4 -> call("receive", server());
            default -> call("echo", server(), random.nextLong(), edge());
        }
    }

    private int server() {
        return random.nextInt(40) == 0 ? random.nextInt(9) - 2 : random.nextInt(5);
    }

    private long edge() {
        long e = EDGES[random.nextInt(EDGES.length)];
        return random.nextBoolean() ? e : -e;
    }

    private void call(String name, Object... args) {
        if (!same) {
            return;
        }
        String got = answer(client, name, args);
        String want = answer(model, name, args);
        calls.add(name + List.of(args) + " " + want);
        seen.merge(name + " " + (want.startsWith("throws") || want.length() < 4 ? want : want.substring(0, 1)), 1,
            Integer::sum);
        same = got.equals(want);
        check.due("the last one of these calls " + (same ? "" : calls.toString()), got, want);
    }

    private static String answer(Object target, String name, Object[] args) {
        try {
            Object answer = method(target, name).invoke(target, args);
            return answer == null ? "nothing" : answer.toString();
        } catch (InvocationTargetException e) {
            return "throws." + e.getCause().getClass().getSimpleName();
        } catch (IllegalAccessException e) {
            throw new IllegalStateException(e);
        }
    }

    private static Method method(Object target, String name) {
        return methods.computeIfAbsent(target.getClass().getName() + name, key -> {
            for (Method m : target.getClass().getMethods()) {
                if (m.getName().equals(name)) {
                    return m;
                }
            }
            throw new IllegalStateException("no method " + name);
        });
    }
}
