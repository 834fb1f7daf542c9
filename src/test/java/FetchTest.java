/** Promise 7 within one ROUND: modes, credentials, who passes, sorts. */
public final class FetchTest {
    public static void main(String[] args) {
        Checks checks = new Checks("fetch");
        near(checks);
        sameOriginStaysNear(checks);
        whoPasses(checks);
        noCorsShowsNothing(checks);
        credentialsSent(checks);
        checks.end();
    }

    private static void near(Checks checks) {
        for (int mode = 0; mode < 2; mode++) {
            for (int method = 0; method < 4; method++) {
                FetchDesk desk = new FetchDesk();
                desk.serve(23, 500, 12, -1);
                desk.headers(23, 10, 0);
                checks.same("near", Checks.outcome(desk, 2, 23, method, 15, mode, 0, 0), 0);
                checks.told("near", desk, 0, 1, 23, 2, method, 0, 500, 12, 10, 0);
                checks.counts("near asks nobody", desk, 1, 0, 1, 0, 0, 0);
            }
        }
    }

    private static void sameOriginStaysNear(Checks checks) {
        for (int origin = 0; origin < 6; origin++) {
            for (int url = 0; url < 48; url++) {
                FetchDesk desk = new FetchDesk();
                desk.allow(url, 255, true);
                boolean near = url / 8 == origin;
                checks.same("same origin", Checks.outcome(desk, origin, url, 0, 0, 0, 0, 0), near ? 0 : -1);
                checks.same("same origin requests", desk.count(2), near ? 1 : 0);
                checks.same("same origin never asks", desk.count(3), 0);
            }
        }
        FetchDesk desk = new FetchDesk();
        checks.refuses("an error", Checks.ERROR, () -> desk.fetch(0, 8, 3, 15, 0, 2, 0));
        checks.told("an error", desk, 1, 1, 8, 0, 3, 1, 0, 0, 0, 0);
    }

    private static void whoPasses(Checks checks) {
        FetchDesk desk = new FetchDesk();
        int calls = 0;
        for (int bits = 0; bits < 256; bits++) {
            for (int variant = 0; variant < 4; variant++) {
                boolean allowed = variant % 2 == 1;
                boolean sent = variant / 2 == 1;
                for (int origin = 0; origin < 5; origin++) {
                    calls += 3;
                    if (calls > 500) {
                        desk = new FetchDesk();
                        calls = 3;
                    }
                    desk.allow(40, bits, allowed);
                    boolean byName = (bits >> origin & 1) == 1;
                    boolean passes = sent ? byName && allowed : byName || bits >= 128;
                    checks.same("origin " + origin + " with " + bits + ", " + allowed + ", sent " + sent,
                            Checks.outcome(desk, origin, 40, 1, 0, 1, sent ? 2 : origin % 2, 0), passes ? 1 : -3);
                }
            }
        }
    }

    private static void noCorsShowsNothing(Checks checks) {
        FetchDesk desk = new FetchDesk();
        desk.serve(8, 404, 9, -1);
        desk.headers(8, 15, 15);
        checks.same("no cors", Checks.outcome(desk, 0, 8, 1, 0, 2, 2, 0), 2);
        checks.told("no cors", desk, 0, 1, 8, 0, 1, 1, 0, 0, 0, 2);
        checks.same("it was requested with credentials", desk.count(68), 1);
        desk.allow(8, 255, true);
        checks.same("cors", Checks.outcome(desk, 0, 8, 1, 0, 1, 2, 0), 1);
        checks.told("cors", desk, 0, 1, 8, 0, 1, 1, 404, 9, 15, 1);
    }

    private static void credentialsSent(Checks checks) {
        for (int credentials = 0; credentials < 3; credentials++) {
            for (int mode = 0; mode < 3; mode++) {
                FetchDesk desk = new FetchDesk();
                desk.allow(0, 255, true);
                desk.allow(8, 255, true);
                Checks.outcome(desk, 0, 0, 0, 0, mode, credentials, 0);
                checks.same("near, sent with " + credentials, desk.told(5), credentials > 0 ? 1 : 0);
                checks.same("near, counted with " + credentials, desk.count(60), credentials > 0 ? 1 : 0);
                Checks.outcome(desk, 0, 8, 0, 0, mode, credentials, 0);
                checks.same("far, sent with " + credentials, desk.told(5), credentials == 2 ? 1 : 0);
                checks.same("far, counted with " + credentials, desk.count(68), credentials == 2 && mode > 0 ? 1 : 0);
            }
        }
    }
}
