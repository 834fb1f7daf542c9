import java.util.function.ToDoubleFunction;

/** "An object is used for at most 512 calls after it has been made": every call holds as the 512th one, too. */
public final class LongRunTest {
    private static final int CALLS = 512;
    private static final int[] RING = {8, 9, 10, 11, 12};

    public static void main(String[] args) {
        Checks checks = new Checks("long runs");
        checks.sentence("512 calls, the last of which answers", LongRunTest::everyCallAtLast);
        checks.sentence("512 calls, the last of which throws", LongRunTest::everyRefusalAtLast);
        checks.sentence("511 REQUESTS and their count", LongRunTest::requestsAlone);
        checks.sentence("512 calls, each ROUND of each REQUEST being ASKED for", LongRunTest::askedInEachRound);
        checks.sentence("512 calls, each REQUEST being remembered and another one going", LongRunTest::oneGoesEachTime);
        checks.sentence("512 settings", LongRunTest::settingsAlone);
        checks.sentence("512 ticks", LongRunTest::ticksAlone);
        checks.end();
    }

    /**
     * The desk after 511 calls: URLS of ORIGIN 1 lead ORIGIN 0 round and round, so that each REQUEST has 5 ROUNDS
     * and is an ERROR 5; what is ASKED for is remembered for 10 seconds.
     */
    private static FetchDesk afterAllButOne(Checks checks) {
        FetchDesk desk = ring(100);
        for (int call = 3 * RING.length + 1; call < CALLS; call++) {
            checks.refuses("call " + call, Checks.ERROR, () -> desk.fetch(0, 8, 2, 1, 1, 2, 0));
        }
        return desk;
    }

    private static FetchDesk ring(double age) {
        FetchDesk desk = new FetchDesk();
        for (int i = 0; i < RING.length; i++) {
            desk.serve(RING[i], 308, 7, RING[(i + 1) % RING.length]);
            desk.allow(RING[i], 1, true);
            desk.asked(RING[i], true, 4, 1, age);
        }
        return desk;
    }

    private static void atLast(Checks checks, String what, double due, ToDoubleFunction<FetchDesk> call) {
        checks.sameDouble(what, call.applyAsDouble(afterAllButOne(checks)), due);
    }

    private static void everyCallAtLast(Checks checks) {
        int requests = CALLS - 1 - 3 * RING.length;
        atLast(checks, "allow", 1, desk -> desk.allow(8, 255, false));
        atLast(checks, "tick", 1000, desk -> desk.tick(1000));
        atLast(checks, "fetch", 0, desk -> desk.fetch(5, 47, 3, 15, 0, 0, 0));
        atLast(checks, "left", 10, desk -> desk.left(4));
        int[] told = {5, 5, 12, 0, 2, 1, 0, 0, 0, 0};
        for (int what = 0; what < told.length; what++) {
            int w = what;
            atLast(checks, "told(" + w + ")", told[w], desk -> desk.told(w));
        }
        int[] kept = {0, 12, 1, 4, 1, 1};
        for (int what = 0; what < kept.length; what++) {
            int w = what;
            atLast(checks, "kept(4, " + w + ")", kept[w], desk -> desk.kept(4, w));
        }
        int[] counts = {requests, requests, 5 * requests, 5, 5 * requests - 5, 5};
        for (int what = 0; what < counts.length; what++) {
            int w = what;
            atLast(checks, "count(" + w + ")", counts[w], desk -> desk.count(w));
        }
        for (int url : RING) {
            atLast(checks, "count(10 + " + url + ")", requests, desk -> desk.count(10 + url));
            atLast(checks, "count(60 + " + url + ")", requests, desk -> desk.count(60 + url));
        }
        FetchDesk desk = afterAllButOne(checks);
        desk.serve(47, 599, 1, 0);
        desk = afterAllButOne(checks);
        desk.headers(47, 15, 15);
        desk = afterAllButOne(checks);
        desk.asked(47, true, 15, 15, 100);
    }

    private static void everyRefusalAtLast(Checks checks) {
        FetchDesk serve = afterAllButOne(checks);
        checks.refuses("serve", Checks.ILLEGAL, () -> serve.serve(48, 200, 0, -1));
        FetchDesk headers = afterAllButOne(checks);
        checks.refuses("headers", Checks.ILLEGAL, () -> headers.headers(0, 16, 0));
        FetchDesk allow = afterAllButOne(checks);
        checks.refuses("allow", Checks.ILLEGAL, () -> allow.allow(0, 256, true));
        FetchDesk asked = afterAllButOne(checks);
        checks.refuses("asked", Checks.ILLEGAL, () -> asked.asked(0, true, 0, 0, 100.5));
        FetchDesk tick = afterAllButOne(checks);
        checks.refuses("tick", Checks.ILLEGAL, () -> tick.tick(0));
        FetchDesk fetch = afterAllButOne(checks);
        checks.refuses("fetch", Checks.ILLEGAL, () -> fetch.fetch(6, 0, 0, 0, 0, 0, 0));
        FetchDesk error = afterAllButOne(checks);
        checks.refuses("fetch", Checks.ERROR, () -> error.fetch(0, 8, 2, 1, 1, 2, 0));
        FetchDesk told = afterAllButOne(checks);
        checks.refuses("told", Checks.ILLEGAL, () -> told.told(10));
        FetchDesk kept = afterAllButOne(checks);
        checks.refuses("kept", Checks.ILLEGAL, () -> kept.kept(5, 6));
        FetchDesk none = afterAllButOne(checks);
        checks.refuses("kept", Checks.NO_SUCH, () -> none.kept(5, 5));
        FetchDesk left = afterAllButOne(checks);
        checks.refuses("left", Checks.NO_SUCH, () -> left.left(5));
        FetchDesk count = afterAllButOne(checks);
        checks.refuses("count", Checks.ILLEGAL, () -> count.count(58));
    }

    private static void requestsAlone(Checks checks) {
        FetchDesk desk = new FetchDesk();
        for (int call = 1; call < CALLS; call++) {
            checks.same("call " + call, desk.fetch(5, 47, 3, 15, 1, 1, 0), 0);
        }
        checks.same("with CREDENTIALS", desk.count(107), CALLS - 1);
    }

    private static void askedInEachRound(Checks checks) {
        int requests = CALLS - 1 - 3 * RING.length;
        FetchDesk desk = ring(0);
        for (int i = 0; i < requests; i++) {
            checks.refuses("REQUEST " + i, Checks.ERROR, () -> desk.fetch(0, 8, 2, 1, 1, 2, 0));
        }
        checks.same("ASKED", desk.count(3), 5 * requests);
    }

    /** Each URL that is not of ORIGIN 0 in its turn, so that the one that is ASKED for has always gone already. */
    private static void oneGoesEachTime(Checks checks) {
        FetchDesk desk = Desks.open(10);
        int requests = CALLS - 2 * 48 - 6 - 2;
        for (int i = 0; i < requests; i++) {
            checks.same("REQUEST " + i, desk.fetch(0, 8 + i % 40, 2, 0, 1, 0, 0), 1);
        }
        checks.same("ASKED", desk.count(3), requests);
        checks.same("there", desk.count(5), 6);
        for (int i = 0; i < 6; i++) {
            checks.same("the latest 6", desk.kept(i, 1), 8 + (requests - 6 + i) % 40);
        }
    }

    private static void settingsAlone(Checks checks) {
        FetchDesk desk = new FetchDesk();
        for (int call = 1; call <= CALLS; call++) {
            int before = call == 1 ? 0 : (call - 1) % 256;
            checks.same("call " + call, desk.allow(47, call % 256, true), before);
        }
    }

    private static void ticksAlone(Checks checks) {
        FetchDesk desk = new FetchDesk();
        for (int call = 1; call <= CALLS; call++) {
            checks.sameDouble("call " + call, desk.tick(1000), 1000.0 * call);
        }
    }
}
