import java.util.NoSuchElementException;

/** Promises 16 to 20: candidates, low, high, survivors, peer. */
public final class AgreementTest {
    private static final Check check = new Check();
    private static final long D = Scene.LEAST_DISTANCE;
    private static final long LIMIT = 6442450944L;

    public static void main(String[] args) {
        candidatesNeedSamples();
        candidatesNeedReach();
        candidatesAreNotDenied();
        candidatesAreNear();
        nobody();
        aloneOne();
        twoMustTouch();
        halfIsNoMajority();
        threeOfFive();
        majoritiesApart();
        inTheMajorityButNotASurvivor();
        majorityWithoutSurvivors();
        offsetsAtTheEnds();
        atMostThreeSurvive();
        spreadIsCountedAnew();
        equalSpreads();
        denialChangesTheMajority();
        peerByStratum();
        peerByDistance();
        peerByNumber();
        farAway();
        askingChangesNothing();
        answersDoNotNeedOneAnother();
        check.end();
    }

    private static void candidatesNeedSamples() {
        StrataClient x = Scene.client();
        check.due("candidates at first", x.candidates(), 0);
        for (int s = 4; s >= 0; s--) {
            x.send(s);
            x.send(s);
            Scene.take(x, s, 10);
            check.due("candidates down to " + s, x.candidates(), 32 - (1 << s));
        }
    }

    private static void candidatesNeedReach() {
        StrataClient x = Scene.clientWith(10, 20);
        for (int i = 0; i < 7; i++) {
            x.send(0);
            check.due("candidates", x.candidates(), 3);
        }
        x.send(0);
        check.due("candidates without the one of reach 0", x.candidates(), 2);
        check.due("its sample is still there", x.offset(0), 10);
        check.due("survivors", x.survivors(), 2);
        Scene.take(x, 0, 10);
        check.due("candidates when it answers", x.candidates(), 3);
    }

    private static void candidatesAreNotDenied() {
        StrataClient x = Scene.clientWith(10, 20, 30);
        Scene.kiss(x, 1, Scene.DENY);
        check.due("candidates", x.candidates(), 5);
        Scene.kiss(x, 2, Scene.RSTR);
        check.due("candidates", x.candidates(), 1);
        Scene.kiss(x, 0, Scene.RATE);
        check.due("candidates", x.candidates(), 1);
    }

    private static void candidatesAreNear() {
        StrataClient x = Scene.client();
        long delay = 2 * (LIMIT - 65536);
        Scene.take(x, 0, 10, delay);
        Scene.take(x, 1, 10, delay - 2);
        check.due("distance at the limit", x.distance(0), LIMIT);
        check.due("distance below the limit", x.distance(1), LIMIT - 1);
        check.due("candidates", x.candidates(), 2);
        x.run(65536);
        check.due("candidates after a while", x.candidates(), 0);
        check.due("survivors after a while", x.survivors(), 0);
    }

    private static void nobody() {
        StrataClient x = Scene.client();
        check.due("survivors", x.survivors(), 0);
        noMajority(x);
        check.refused("peer", NoSuchElementException.class, x::peer);
    }

    private static void aloneOne() {
        StrataClient x = Scene.client();
        Scene.take(x, 3, -70);
        bounds("alone", x, -70 - D, -70 + D, 8);
        check.due("peer", x.peer(), 3);
    }

    private static void twoMustTouch() {
        StrataClient x = Scene.clientWith(10, 10 + 2 * D);
        check.due("low of two that touch", x.low(), 10 + D);
        check.due("high of two that touch", x.high(), 10 + D);
        check.due("survivors of two that touch", x.survivors(), 0);
        StrataClient y = Scene.clientWith(10, 11 + 2 * D);
        noMajority(y);
        check.due("candidates", y.candidates(), 3);
        check.due("survivors of two apart", y.survivors(), 0);
        StrataClient z = Scene.clientWith(10, 10 + D);
        bounds("two that reach each other", z, 10, 10 + D, 3);
    }

    private static void halfIsNoMajority() {
        StrataClient x = Scene.clientWith(10, 20, 10000000, 10000010);
        noMajority(x);
        check.due("survivors", x.survivors(), 0);
        Scene.take(x, 4, 15);
        bounds("three of five", x, 20 - D, 10 + D, 19);
    }

    private static void threeOfFive() {
        StrataClient x = Scene.clientWith(-9000000, 100, 50000000, 200, 300);
        bounds("three of five", x, 300 - D, 100 + D, 26);
        check.due("peer", x.peer(), 1);
    }

    /** LOW and HIGH belong to two majorities; between them no long is in three of the intervals. */
    private static void majoritiesApart() {
        StrataClient x = Scene.client();
        Scene.take(x, 0, 0, 2 * 10000000);
        Scene.take(x, 1, -5000000);
        Scene.take(x, 2, -5000010);
        Scene.take(x, 3, 5000000);
        Scene.take(x, 4, 5000020);
        bounds("majorities apart", x, -5000000 - D, 5000000 + D, 7);
    }

    private static void inTheMajorityButNotASurvivor() {
        StrataClient x = Scene.clientWith(0, 50000, 100000);
        bounds("three in a row", x, 50000 - D, 50000 + D, 7);
        StrataClient y = Scene.clientWith(0, 100000, 130000);
        bounds("the first is too far from the others", y, 100000 - D, 100000 + D, 6);
    }

    private static void majorityWithoutSurvivors() {
        StrataClient x = Scene.clientWith(1000, 1000 + 2 * D - 2);
        check.due("low", x.low(), 1000 + D - 2);
        check.due("high", x.high(), 1000 + D);
        check.due("survivors", x.survivors(), 0);
        check.refusedUnchanged("peer", x, NoSuchElementException.class, x::peer);
        check.refusedUnchanged("update", x, IllegalStateException.class, x::update);
    }

    private static void offsetsAtTheEnds() {
        StrataClient x = Scene.clientWith(0, D);
        bounds("offsets at LOW and HIGH", x, 0, D, 3);
        StrataClient y = Scene.clientWith(0, D + 1);
        check.due("low", y.low(), 1);
        check.due("high", y.high(), D);
        check.due("survivors just beyond", y.survivors(), 0);
    }

    private static void atMostThreeSurvive() {
        StrataClient x = Scene.clientWith(100, 50, 90, 110);
        check.due("the farthest of four leaves", x.survivors(), 13);
        x = Scene.clientWith(10, 20, 30, 500, 400);
        check.due("the two farthest of five leave", x.survivors(), 7);
        x = Scene.clientWith(10, 20, 30000);
        check.due("of three none leaves", x.survivors(), 7);
    }

    /** 502 leaves first; by the same count -501 would be next, but without 502 it is 500. */
    private static void spreadIsCountedAnew() {
        check.due("survivors", Scene.clientWith(0, -500, -501, 500, 502).survivors(), 7);
        check.due("survivors, turned", Scene.clientWith(502, 500, -501, -500, 0).survivors(), 28);
    }

    private static void equalSpreads() {
        check.due("all equal", Scene.clientWith(5, 5, 5, 5, 5).survivors(), 7);
        check.due("two pairs", Scene.clientWith(100, 0, 0, 100).survivors(), 7);
        check.due("both ends of four", Scene.clientWith(0, 40, 60, 100).survivors(), 7);
        check.due("both ends of four, turned", Scene.clientWith(60, 100, 0, 40).survivors(), 11);
    }

    private static void denialChangesTheMajority() {
        StrataClient x = Scene.clientWith(10, 20, 10000000, 10000010);
        noMajority(x);
        Scene.kiss(x, 0, Scene.DENY);
        bounds("two of three", x, 10000010 - D, 10000000 + D, 12);
    }

    private static void peerByStratum() {
        StrataClient x = Scene.client();
        int[] strata = {3, 2, 15};
        for (int s = 0; s < 3; s++) {
            x.put(Scene.STRATUM_AT, strata[s], 1);
            Scene.take(x, s, 10, s == 1 ? 50000 : 0);
        }
        check.due("peer", x.peer(), 1);
        x.put(Scene.STRATUM_AT, 1, 1);
        Scene.take(x, 4, 90000000);
        check.due("one that does not survive is no peer", x.peer(), 1);
    }

    private static void peerByDistance() {
        StrataClient x = Scene.client();
        Scene.take(x, 0, 10, 8004);
        Scene.take(x, 1, 10, 8002);
        Scene.take(x, 2, 10, 8000);
        check.due("peer", x.peer(), 2);
        x.put(Scene.ROOT_DISPERSION_AT, 1, 4);
        Scene.take(x, 2, 10, 8000);
        check.due("peer by the root distance", x.peer(), 1);
    }

    private static void peerByNumber() {
        StrataClient x = Scene.client();
        for (int s = 4; s >= 0; s--) {
            Scene.take(x, s, 10);
            check.due("peer of equal ones", x.peer(), s);
        }
    }

    private static void farAway() {
        long far = 1L << 60;
        bounds("far ahead", Scene.clientWith(far, far), far - D, far + D, 3);
        bounds("far behind", Scene.clientWith(-far, -far), -far - D, -far + D, 3);
        StrataClient x = Scene.clientWith(far, -far, -far);
        bounds("far on both sides", x, -far - D, -far + D, 6);
        noMajority(Scene.clientWith(far, -far));
    }

    private static void askingChangesNothing() {
        StrataClient x = Scene.clientWith(100, 50, 90, 110, 9000);
        String before = Scene.answers(x);
        check.due("asked again", Scene.answers(x), before);
    }

    private static void answersDoNotNeedOneAnother() {
        check.due("candidates asked first", Scene.clientWith(1, 20, 300).candidates(), 7);
        check.due("low asked first", Scene.clientWith(1, 20, 300).low(), 20 - D);
        check.due("high asked first", Scene.clientWith(1, 20, 300).high(), 20 + D);
        check.due("survivors asked first", Scene.clientWith(1, 20, 300).survivors(), 7);
        check.due("peer asked first", Scene.clientWith(1, 20, 300).peer(), 0);
        StrataClient x = Scene.clientWith(1);
        check.due("high", x.high(), 1 + D);
        x.run(65536);
        check.due("high after a while", x.high(), 2 + D);
        x.run(65536);
        check.due("low after a while", x.low(), -1 - D);
        Scene.kiss(x, 0, Scene.DENY);
        check.refused("high of nobody", NoSuchElementException.class, x::high);
    }

    private static void bounds(String what, StrataClient x, long low, long high, int survivors) {
        check.due(what + ": low", x.low(), low);
        check.due(what + ": high", x.high(), high);
        check.due(what + ": survivors", x.survivors(), survivors);
    }

    private static void noMajority(StrataClient x) {
        check.refused("low", NoSuchElementException.class, x::low);
        check.refused("high", NoSuchElementException.class, x::high);
        check.refused("peer", NoSuchElementException.class, x::peer);
        check.refusedUnchanged("update", x, IllegalStateException.class, x::update);
    }
}
