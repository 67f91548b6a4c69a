import java.util.NoSuchElementException;
import java.util.function.Consumer;

/** Promises 16 to 20 (candidates, low, high, survivors, peer), and what the document's Terms say of them. */
public final class AgreementTest {
    private static final Check check = new Check();
    private static final long D = Scene.LEAST_DISTANCE;
    private static final long LIMIT = 6442450944L;

    public static void main(String[] args) {
        check.all(
            AgreementTest::candidatesAreBits,
            AgreementTest::candidatesAreNotDenied,
            AgreementTest::candidatesHaveReach,
            AgreementTest::candidatesHaveSamples,
            AgreementTest::distanceByDelay,
            AgreementTest::distanceByJitter,
            AgreementTest::distanceByRoot,
            AgreementTest::distanceByAge,
            AgreementTest::intervalsHaveTheirEnds,
            AgreementTest::moreThanHalf,
            AgreementTest::halfOfTheCandidates,
            AgreementTest::leastAndGreatest,
            AgreementTest::boundsOfTheMost,
            AgreementTest::survivorsLieFromLowToHigh,
            AgreementTest::survivorsAreCandidates,
            AgreementTest::moreThanThree,
            AgreementTest::spreadHasNoSign,
            AgreementTest::spreadIsCountedAnew,
            AgreementTest::spreadIsOfSurvivors,
            AgreementTest::equalSpreads,
            AgreementTest::peerByStratum,
            AgreementTest::peerByDistance,
            AgreementTest::peerByNumber,
            AgreementTest::peerSurvives,
            AgreementTest::noLow,
            AgreementTest::noHigh,
            AgreementTest::noSurvivors,
            AgreementTest::noPeer,
            AgreementTest::majorityWithoutSurvivors,
            AgreementTest::farAway,
            AgreementTest::answersDoNotNeedOneAnother);
        check.end();
    }

    private static void candidatesAreBits() {
        check.about("Promise 16: The candidates, server s as the bit 2^s");
        StrataClient x = Scene.client();
        check.due("candidates at first", x.candidates(), 0);
        for (int s = 4; s >= 0; s--) {
            Scene.take(x, s, 10);
            check.due("candidates down to " + s, x.candidates(), 32 - (1 << s));
        }
    }

    private static void candidatesAreNotDenied() {
        check.about("Terms: CANDIDATES are the servers that are not denied");
        StrataClient x = Scene.clientWith(10, 20, 30);
        Scene.kiss(x, 1, Scene.DENY);
        check.due("candidates", x.candidates(), 5);
        Scene.kiss(x, 2, Scene.RSTR);
        check.due("candidates", x.candidates(), 1);
        Scene.kiss(x, 0, Scene.RATE);
        check.due("candidates", x.candidates(), 1);
    }

    private static void candidatesHaveReach() {
        check.about("Terms: have a reach that is not 0");
        StrataClient x = Scene.clientWith(10, 20);
        for (int i = 0; i < 7; i++) {
            x.send(0);
            check.due("candidates", x.candidates(), 3);
        }
        check.due("reach", x.reach(0), 128);
        x.send(0);
        check.due("candidates without the one of reach 0", x.candidates(), 2);
        check.due("its sample is still there", x.offset(0), 10);
        check.due("survivors", x.survivors(), 2);
        Scene.take(x, 0, 10);
        check.due("candidates when it answers", x.candidates(), 3);
    }

    /** Only a SAMPLE makes a reach that is not 0, and a step takes both, so there is no reach without a sample. */
    private static void candidatesHaveSamples() {
        check.about("Terms: and some sample");
        StrataClient x = Scene.client();
        for (int s = 0; s < 5; s++) {
            x.send(s);
        }
        check.due("candidates of servers that were asked", x.candidates(), 0);
        Scene.take(x, 2, 1L << 40);
        x.update();
        check.due("candidates after a step", x.candidates(), 0);
    }

    private static void distanceByDelay() {
        check.about("Terms: and have a root distance of less than 6442450944");
        StrataClient x = Scene.client();
        long delay = 2 * (LIMIT - 65536);
        Scene.take(x, 0, 10, delay);
        Scene.take(x, 1, 10, delay - 2);
        Scene.take(x, 2, 10, delay + 2);
        distances(x, LIMIT, LIMIT - 1, LIMIT + 1);
        check.due("candidates", x.candidates(), 2);
    }

    private static void distanceByJitter() {
        check.about("Terms: and have a root distance of less than 6442450944 (by jitter)");
        StrataClient x = Scene.client();
        long[] jitters = {LIMIT - D, LIMIT - D - 1, LIMIT - D + 1};
        for (int s = 0; s < 3; s++) {
            Scene.take(x, s, 10 - jitters[s], 8192);
            Scene.take(x, s, 10);
        }
        distances(x, LIMIT, LIMIT - 1, LIMIT + 1);
        check.due("candidates", x.candidates(), 2);
    }

    private static void distanceByRoot() {
        check.about("Terms: and have a root distance of less than 6442450944 (by root delay and root dispersion)");
        StrataClient x = Scene.client();
        x.put(Scene.ROOT_DISPERSION_AT, 98302, 4);
        rest(x, 0, 98302L * 65536);
        x.put(Scene.ROOT_DISPERSION_AT, 0, 4);
        x.put(Scene.ROOT_DELAY_AT, 2 * 98302, 4);
        rest(x, 2, 98302L * 65536);
        distances(x, LIMIT, LIMIT - 1, LIMIT, LIMIT - 1);
        check.due("candidates", x.candidates(), 2 + 8);
    }

    /** Two servers whose delays bring them to the limit and just below it. */
    private static void rest(StrataClient x, int first, long root) {
        Scene.take(x, first, 10, 2 * (LIMIT - 65536 - root));
        Scene.take(x, first + 1, 10, 2 * (LIMIT - 65536 - root) - 2);
    }

    private static void distanceByAge() {
        check.about("Terms: and have a root distance of less than 6442450944 (by age)");
        StrataClient x = Scene.client();
        Scene.take(x, 0, 10, 2 * (LIMIT - 65536 - 3));
        x.run(3 * 65536 - 1);
        distances(x, LIMIT - 1);
        check.due("candidates", x.candidates(), 1);
        x.run(1);
        distances(x, LIMIT);
        check.due("candidates", x.candidates(), 0);
        check.due("survivors", x.survivors(), 0);
    }

    private static void distances(StrataClient x, long... due) {
        for (int s = 0; s < due.length; s++) {
            check.due("distance(" + s + ")", x.distance(s), due[s]);
        }
    }

    private static void intervalsHaveTheirEnds() {
        check.about("Terms: The INTERVAL of a candidate has all longs from its offset less its root distance to its "
            + "offset plus its root distance");
        bounds("alone", Scene.clientWith(-70), -70 - D, -70 + D, 1);
        bounds("two that touch", Scene.clientWith(10, 10 + 2 * D), 10 + D, 10 + D, 0);
        bounds("two that touch, turned", Scene.clientWith(10 + 2 * D, 10), 10 + D, 10 + D, 0);
        none("two that do not", Scene.clientWith(10, 11 + 2 * D), 3);
        none("two that do not, turned", Scene.clientWith(11 + 2 * D, 10), 3);
        nextToOneAnother("the third ends where the second begins", 132416, 132416);
        nextToOneAnother("the third ends just before it", 132415, 142416);
    }

    /** Of five, 0 is wide, 1 begins at 132416, 2 ends as told, 3 begins at 142416, and 4 is far off. */
    private static void nextToOneAnother(String what, long end, long low) {
        long[] signs = {1, -1};
        for (long sign : signs) {
            StrataClient x = Scene.client();
            Scene.take(x, 0, 0, 2 * 1000000);
            Scene.take(x, 1, sign * 200000);
            Scene.take(x, 2, sign * (end - D));
            Scene.take(x, 3, sign * 210000);
            Scene.take(x, 4, 90000000);
            long high = 200000 + D;
            bounds(what, x, sign > 0 ? low : -high, sign > 0 ? high : -low, 10);
        }
    }

    private static void moreThanHalf() {
        check.about("Terms: There is a MAJORITY when some long is in more than half of the candidates' intervals");
        long far = 10000000;
        bounds("1 of 1", Scene.clientWith(10), 10 - D, 10 + D, 1);
        none("1 of 2", Scene.clientWith(10, far), 3);
        bounds("2 of 2", Scene.clientWith(10, 20), 20 - D, 10 + D, 3);
        none("1 of 3", Scene.clientWith(10, far, 2 * far), 7);
        bounds("2 of 3", Scene.clientWith(10, far, 20), 20 - D, 10 + D, 5);
        none("2 of 4", Scene.clientWith(10, far, 20, 2 * far), 15);
        none("2 and 2 of 4", Scene.clientWith(10, far, 20, far), 15);
        bounds("3 of 4", Scene.clientWith(10, far, 20, 30), 30 - D, 10 + D, 13);
        none("2 and 2 of 5", Scene.clientWith(10, far, 20, far, -far), 31);
        bounds("3 of 5", Scene.clientWith(-far, 100, 2 * far, 200, 300), 300 - D, 100 + D, 26);
        bounds("3 and 2 of 5", Scene.clientWith(far, 100, far, 200, 300), 300 - D, 100 + D, 26);
    }

    /** Of four servers two agree; when one of the others is no candidate, they are two of three. */
    private static void halfOfTheCandidates() {
        check.about("Terms: more than half of the candidates' intervals (not of all servers')");
        long far = 1L << 40;
        StrataClient denied = Scene.clientWith(10, 20, far, 2 * far);
        none("four", denied, 15);
        Scene.kiss(denied, 2, Scene.DENY);
        bounds("one is denied", denied, 20 - D, 10 + D, 3);
        StrataClient silent = Scene.clientWith(10, 20, far, 2 * far);
        for (int i = 0; i < 8; i++) {
            silent.send(3);
        }
        bounds("one has the reach 0", silent, 20 - D, 10 + D, 3);
        StrataClient distant = Scene.clientWith(10, 20, far);
        Scene.take(distant, 3, 2 * far, 2 * LIMIT);
        bounds("one is too distant", distant, 20 - D, 10 + D, 3);
    }

    /** LOW and HIGH belong to two majorities; between them no long is in three of the intervals. */
    private static void leastAndGreatest() {
        check.about("Terms: LOW and HIGH are the least and the greatest one that is");
        StrataClient x = Scene.client();
        Scene.take(x, 0, 0, 2 * 10000000);
        Scene.take(x, 1, -5000000);
        Scene.take(x, 2, -5000010);
        Scene.take(x, 3, 5000000);
        Scene.take(x, 4, 5000020);
        bounds("majorities apart", x, -5000000 - D, 5000000 + D, 7);
    }

    private static void boundsOfTheMost() {
        check.about("Terms: LOW and HIGH (not of all intervals, not of the most that agree)");
        bounds("three in a row", Scene.clientWith(0, 50000, 100000), 50000 - D, 50000 + D, 7);
        StrataClient x = Scene.client();
        Scene.take(x, 0, 0, 2 * 1000000);
        Scene.take(x, 1, 100000, 2 * 500000);
        Scene.take(x, 2, 200000, 2 * 100000);
        bounds("one in another", x, 100000 - 565536, 100000 + 565536, 7);
    }

    private static void survivorsLieFromLowToHigh() {
        check.about("Terms: The SURVIVORS are the candidates with an offset from LOW to HIGH");
        bounds("offsets at LOW and HIGH", Scene.clientWith(0, D), 0, D, 3);
        bounds("offsets just beyond", Scene.clientWith(0, D + 1), 1, D, 0);
        bounds("one below", Scene.clientWith(0, 100000, 130000), 100000 - D, 100000 + D, 6);
        bounds("one above", Scene.clientWith(130000, 30000, 0), 30000 - D, 30000 + D, 6);
        bounds("one at LOW", Scene.clientWith(0, D, 2 * D - 1), D - D, D + D, 7);
        bounds("one at LOW - 1", Scene.clientWith(-1, D, 2 * D), 0, 2 * D, 6);
        bounds("one at HIGH + 1", Scene.clientWith(0, D, 2 * D + 1), 0, 2 * D, 3);
    }

    private static void survivorsAreCandidates() {
        check.about("Terms: The SURVIVORS are the candidates (not other servers)");
        StrataClient x = Scene.clientWith(10, 20, 30, 40);
        Scene.kiss(x, 0, Scene.DENY);
        check.due("survivors", x.survivors(), 14);
        for (int i = 0; i < 8; i++) {
            x.send(1);
        }
        check.due("survivors", x.survivors(), 12);
    }

    private static void moreThanThree() {
        check.about("Terms: but as long as these are more than three, the one with the greatest SPREAD leaves");
        check.due("of three none leaves", Scene.clientWith(10, 20, 30000).survivors(), 7);
        check.due("of four one leaves", Scene.clientWith(100, 50, 90, 110).survivors(), 13);
        check.due("of five two leave", Scene.clientWith(10, 20, 30, 500, 400).survivors(), 7);
        check.due("of five two leave", Scene.clientWith(500, 10, 400, 20, 30).survivors(), 26);
    }

    private static void spreadHasNoSign() {
        check.about("Terms: the spread is the sum of the differences (without signs)");
        check.due("the least leaves", Scene.clientWith(-9000, 10, 20, 30).survivors(), 14);
        check.due("the greatest leaves", Scene.clientWith(9000, 10, 20, 30).survivors(), 14);
        check.due("the least leaves", Scene.clientWith(10, 20, 30, -9000).survivors(), 7);
    }

    /** 502 leaves first; by the same count -501 would be next, but without 502 it is 500. */
    private static void spreadIsCountedAnew() {
        check.about("Terms: the sum of the differences of its offset and those of the survivors (that are left)");
        check.due("survivors", Scene.clientWith(0, -500, -501, 500, 502).survivors(), 7);
        check.due("survivors, turned", Scene.clientWith(502, 500, -501, -500, 0).survivors(), 28);
    }

    /** Without the liar 0 and 100 are equal; with it, the one that is farther from it would leave. */
    private static void spreadIsOfSurvivors() {
        check.about("Terms: and those of the survivors (not of all candidates)");
        check.due("a liar above", Scene.clientWith(0, 40, 60, 100, 90000000).survivors(), 7);
        check.due("a liar below", Scene.clientWith(100, 40, 60, 0, -90000000).survivors(), 7);
    }

    private static void equalSpreads() {
        check.about("Terms: with equal ones that with the greater number");
        check.due("all equal", Scene.clientWith(5, 5, 5, 5, 5).survivors(), 7);
        check.due("four equal", Scene.clientWith(5, 5, 5, 5).survivors(), 7);
        check.due("two pairs", Scene.clientWith(100, 0, 0, 100).survivors(), 7);
        check.due("both ends of four", Scene.clientWith(0, 40, 60, 100).survivors(), 7);
        check.due("both ends of four, turned", Scene.clientWith(60, 100, 0, 40).survivors(), 11);
    }

    private static void peerByStratum() {
        check.about("Terms: The PEER is the survivor with the least stratum");
        StrataClient x = Scene.client();
        int[] strata = {3, 2, 15};
        for (int s = 0; s < 3; s++) {
            x.put(Scene.STRATUM_AT, strata[s], 1);
            Scene.take(x, s, 10, s == 1 ? 50000 : 0);
        }
        check.due("peer", x.peer(), 1);
        x.put(Scene.STRATUM_AT, 14, 1);
        Scene.take(x, 1, 10);
        check.due("peer", x.peer(), 0);
        x.put(Scene.STRATUM_AT, 15, 1);
        Scene.take(x, 0, 10);
        check.due("peer", x.peer(), 1);
    }

    private static void peerByDistance() {
        check.about("Terms: with equal ones the least root distance");
        StrataClient x = Scene.client();
        Scene.take(x, 0, 10, 8004);
        Scene.take(x, 1, 10, 8002);
        Scene.take(x, 2, 10, 8000);
        check.due("peer", x.peer(), 2);
        x.put(Scene.ROOT_DISPERSION_AT, 1, 4);
        Scene.take(x, 2, 10, 8000);
        check.due("peer by the root dispersion", x.peer(), 1);
        x.put(Scene.ROOT_DISPERSION_AT, 0, 4);
        Scene.take(x, 1, 12, 8002);
        check.due("peer by the jitter", x.peer(), 0);
    }

    private static void peerByNumber() {
        check.about("Terms: then the least number");
        StrataClient x = Scene.client();
        for (int s = 4; s >= 0; s--) {
            Scene.take(x, s, 10);
            check.due("peer of equal ones", x.peer(), s);
        }
        StrataClient y = Scene.client();
        Scene.takeTimes(y, 3, 8000, 0);
        Scene.takeTimes(y, 1, 8001, 0);
        check.due("equal when rounded", y.peer(), 1);
    }

    private static void peerSurvives() {
        check.about("Terms: The PEER is the survivor (not another candidate)");
        StrataClient x = Scene.client();
        Scene.take(x, 0, 90000000);
        x.put(Scene.STRATUM_AT, 5, 1);
        Scene.take(x, 1, 10);
        Scene.take(x, 2, 10);
        check.due("peer", x.peer(), 1);
        StrataClient y = Scene.client();
        Scene.take(y, 0, 5000);
        y.put(Scene.STRATUM_AT, 5, 1);
        for (int s = 1; s < 4; s++) {
            Scene.take(y, s, 10);
        }
        check.due("survivors", y.survivors(), 14);
        check.due("peer, when a better one left", y.peer(), 1);
    }

    private static void noLow() {
        refusals("Promise 17: NoSuchElementException when there is no majority", "low", StrataClient::low);
    }

    private static void noHigh() {
        refusals("Promise 18: NoSuchElementException when there is no majority", "high", StrataClient::high);
    }

    private static void noSurvivors() {
        check.about("Promise 19: 0 when there is no majority");
        check.due("nobody", new StrataClient().survivors(), 0);
        check.due("two apart", Scene.clientWith(10, 90000000).survivors(), 0);
        check.due("two and two", Scene.clientWith(10, 20, 90000000, 90000010).survivors(), 0);
        check.due("five apart", Scene.clientWith(0, 1000000, 2000000, 3000000, 4000000).survivors(), 0);
    }

    private static void noPeer() {
        refusals("Promise 20: NoSuchElementException when the client does not agree", "peer", StrataClient::peer);
        check.refusedUnchanged("peer without survivors", NoSuchElementException.class,
            () -> Scene.clientWith(1000, 1000 + 2 * D - 2), StrataClient::peer);
    }

    private static void refusals(String words, String what, Consumer<StrataClient> call) {
        check.about(words);
        check.refusedUnchanged(what + " of nobody", NoSuchElementException.class, Scene::client, call);
        check.refusedUnchanged(what + " of two apart", NoSuchElementException.class,
            () -> Scene.clientWith(10, 90000000), call);
        check.refusedUnchanged(what + " of two and two", NoSuchElementException.class,
            () -> Scene.clientWith(10, 20, 90000000, 90000010), call);
        check.refusedUnchanged(what + " when the only one is denied", NoSuchElementException.class, () -> {
            StrataClient x = Scene.clientWith(10);
            Scene.kiss(x, 0, Scene.DENY);
            return x;
        }, call);
    }

    private static void majorityWithoutSurvivors() {
        check.about("Terms: The client AGREES when there is a majority and some survivor");
        bounds("no survivor", Scene.clientWith(1000, 1000 + 2 * D - 2), 1000 + D - 2, 1000 + D, 0);
    }

    private static void farAway() {
        check.about("Terms: LOW and HIGH, as far as offsets go");
        long far = 1L << 60;
        bounds("far ahead", Scene.clientWith(far, far), far - D, far + D, 3);
        bounds("far behind", Scene.clientWith(-far, -far), -far - D, -far + D, 3);
        bounds("far on both sides", Scene.clientWith(far, -far, -far), -far - D, -far + D, 6);
        none("far apart", Scene.clientWith(far, -far), 3);
        StrataClient x = Scene.client();
        Scene.take(x, 0, far, 2 * (LIMIT - 65537));
        bounds("far and wide", x, far - LIMIT + 1, far + LIMIT - 1, 1);
    }

    private static void answersDoNotNeedOneAnother() {
        check.about("Promises 16 to 20, each asked first, and again when the clock went on");
        check.due("candidates", Scene.clientWith(1, 20, 300).candidates(), 7);
        check.due("low", Scene.clientWith(1, 20, 300).low(), 20 - D);
        check.due("high", Scene.clientWith(1, 20, 300).high(), 20 + D);
        check.due("survivors", Scene.clientWith(1, 20, 300).survivors(), 7);
        check.due("peer", Scene.clientWith(1, 20, 300).peer(), 0);
        StrataClient x = Scene.clientWith(1);
        check.due("high", x.high(), 1 + D);
        x.run(65536);
        check.due("high after a while", x.high(), 2 + D);
        x.run(65536);
        check.due("low after a while", x.low(), -1 - D);
        Scene.kiss(x, 0, Scene.DENY);
        check.refused("high of nobody", NoSuchElementException.class, x::high);
    }

    private static void bounds(String what, StrataClient x, long low, long high, int survivors) {
        check.due(what + ": low", Scene.outcome(x::low), Long.toString(low));
        check.due(what + ": high", Scene.outcome(x::high), Long.toString(high));
        check.due(what + ": survivors", x.survivors(), survivors);
    }

    private static void none(String what, StrataClient x, int candidates) {
        check.due(what + ": candidates", x.candidates(), candidates);
        check.refused(what + ": low", NoSuchElementException.class, x::low);
        check.refused(what + ": high", NoSuchElementException.class, x::high);
        check.due(what + ": survivors", x.survivors(), 0);
        check.refused(what + ": peer", NoSuchElementException.class, x::peer);
    }
}
