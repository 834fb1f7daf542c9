/** Promise 7 over several ROUNDS. */
public final class RedirectTest {
    public static void main(String[] args) {
        Checks checks = new Checks("redirects");
        whatIsARedirect(checks);
        whatIsDoneWithIt(checks);
        fourAreFollowed(checks);
        methodsBecomeGet(checks);
        headersGoWithTheMethod(checks);
        originBecomesUnknown(checks);
        originStaysKnown(checks);
        onceFarAlwaysFar(checks);
        passBeforeRedirect(checks);
        sortsAfterRedirects(checks);
        checks.end();
    }

    private static void whatIsARedirect(Checks checks) {
        FetchDesk desk = null;
        for (int status = 200; status < 600; status++) {
            if (status % 50 == 0) {
                desk = new FetchDesk();
            }
            boolean redirect = status == 301 || status == 302 || status == 303 || status == 307 || status == 308;
            desk.serve(0, status, 4, 1);
            desk.fetch(0, 0, 0, 0, 0, 0, 0);
            checks.same("status " + status + " leads to", desk.told(2), redirect ? 1 : 0);
            desk.serve(0, status, 4, -1);
            checks.same("status " + status + " without a target", Checks.outcome(desk, 0, 0, 0, 0, 0, 0, 1), 0);
            checks.same("its status", desk.told(6), status);
        }
    }

    private static void whatIsDoneWithIt(Checks checks) {
        FetchDesk desk = new FetchDesk();
        desk.serve(0, 303, 4, 8);
        desk.headers(0, 15, 15);
        desk.allow(8, 255, true);
        checks.same("error", Checks.outcome(desk, 0, 0, 1, 3, 1, 1, 1), -4);
        checks.told("error", desk, 4, 1, 0, 0, 1, 1, 0, 0, 0, 0);
        checks.same("manual", Checks.outcome(desk, 0, 0, 1, 3, 1, 1, 2), 3);
        checks.told("manual", desk, 0, 1, 0, 0, 1, 1, 0, 0, 0, 3);
        checks.same("follow", Checks.outcome(desk, 0, 0, 1, 3, 1, 1, 0), 1);
        checks.told("follow", desk, 0, 2, 8, 0, 0, 0, 200, 0, 0, 1);
        desk.serve(16, 307, 4, 17);
        checks.same("manual, far with no cors", Checks.outcome(desk, 0, 16, 0, 0, 2, 2, 2), 3);
        checks.told("manual, far with no cors", desk, 0, 1, 16, 0, 0, 1, 0, 0, 0, 3);
        checks.counts("the errors alone are counted as such", desk, 4, 1, 5, 0, 0, 0);
    }

    private static void fourAreFollowed(Checks checks) {
        FetchDesk desk = new FetchDesk();
        for (int url = 0; url < 4; url++) {
            desk.serve(url, 308, url, url + 1);
        }
        desk.serve(4, 201, 44, 5);
        checks.same("four redirects", Checks.outcome(desk, 0, 0, 2, 5, 0, 0, 0), 0);
        checks.told("four redirects", desk, 0, 5, 4, 0, 2, 0, 201, 44, 0, 0);
        desk.serve(4, 303, 44, 8);
        checks.same("five redirects", Checks.outcome(desk, 0, 0, 2, 5, 0, 0, 0), -5);
        checks.told("five redirects", desk, 5, 5, 4, 0, 2, 0, 0, 0, 0, 0);
        checks.same("all five were requested", desk.count(2), 10);
        checks.same("manual is seen before the fifth", Checks.outcome(desk, 0, 4, 0, 0, 0, 0, 2), 3);
    }

    private static void methodsBecomeGet(Checks checks) {
        int[] statuses = {301, 302, 303, 307, 308};
        for (int status : statuses) {
            for (int method = 0; method < 4; method++) {
                FetchDesk desk = new FetchDesk();
                desk.serve(0, status, 0, 1);
                desk.fetch(0, 0, method, 0, 0, 0, 0);
                boolean toGet = status == 303 || status < 303 && method == 1;
                checks.same("method " + method + " after " + status, desk.told(4), toGet ? 0 : method);
            }
        }
    }

    /** Whether HEADERS are left is seen by whether the far RESOURCE is ASKED. */
    private static void headersGoWithTheMethod(Checks checks) {
        int[] statuses = {301, 302, 303, 307, 308};
        for (int status : statuses) {
            for (int method = 0; method < 4; method++) {
                FetchDesk desk = new FetchDesk();
                desk.serve(0, status, 0, 8);
                desk.allow(8, 1, false);
                desk.asked(8, true, 12, 2, 0);
                boolean toGet = method != 0 && (status == 303 || status < 303 && method == 1);
                checks.same("fetch", Checks.outcome(desk, 0, 0, method, 2, 1, 0, 0), 1);
                checks.same("method " + method + " after " + status + " is asked for", desk.count(3), toGet ? 0 : 1);
            }
        }
    }

    private static void originBecomesUnknown(Checks checks) {
        for (int back = 0; back < 3; back += 2) {
            FetchDesk desk = new FetchDesk();
            desk.serve(8, 307, 0, back * 8);
            desk.allow(8, 1, true);
            checks.same("the unknown one is not allowed", Checks.outcome(desk, 0, 8, 0, 0, 1, 0, 0), -3);
            checks.told("the unknown one is not allowed", desk, 3, 2, back * 8, 6, 0, 0, 0, 0, 0, 0);
            desk.allow(back * 8, 63, true);
            checks.same("the known ones are allowed", Checks.outcome(desk, 0, 8, 0, 0, 1, 0, 0), -3);
            desk.allow(back * 8, 64, true);
            checks.same("bit 6 is the unknown one", Checks.outcome(desk, 0, 8, 0, 0, 1, 2, 0), 1);
            checks.same("its origin", desk.told(3), 6);
            desk.allow(back * 8, 128, true);
            checks.same("all are the unknown one too", Checks.outcome(desk, 0, 8, 0, 0, 1, 0, 0), 1);
            checks.same("but not with credentials", Checks.outcome(desk, 0, 8, 0, 0, 1, 2, 0), -3);
            checks.same("no cors", Checks.outcome(desk, 0, 8, 0, 0, 2, 0, 0), 2);
            checks.same("its origin with no cors", desk.told(3), 6);
        }
    }

    private static void originStaysKnown(Checks checks) {
        FetchDesk desk = new FetchDesk();
        desk.serve(0, 307, 0, 8);
        desk.serve(8, 307, 0, 9);
        desk.allow(8, 1, true);
        desk.allow(9, 1, true);
        checks.same("near to far, and within far", Checks.outcome(desk, 0, 0, 0, 0, 1, 2, 0), 1);
        checks.told("near to far, and within far", desk, 0, 3, 9, 0, 0, 1);
    }

    private static void onceFarAlwaysFar(Checks checks) {
        FetchDesk desk = new FetchDesk();
        desk.serve(0, 307, 0, 8);
        desk.serve(8, 307, 0, 1);
        desk.serve(1, 200, 6, -1);
        desk.headers(1, 7, 4);
        desk.allow(8, 1, true);
        desk.allow(1, 64, true);
        checks.same("back at the first origin", Checks.outcome(desk, 0, 0, 0, 0, 1, 1, 0), 1);
        checks.told("back at the first origin", desk, 0, 3, 1, 6, 0, 0, 200, 6, 4, 1);
        checks.same("no credentials there", desk.count(61), 0);
        checks.same("but in the first round", desk.count(60), 1);
    }

    private static void passBeforeRedirect(Checks checks) {
        FetchDesk desk = new FetchDesk();
        desk.serve(8, 302, 0, 9);
        for (int redirects = 0; redirects < 3; redirects++) {
            checks.same("a redirect must pass", Checks.outcome(desk, 0, 8, 1, 0, 1, 0, redirects), -3);
            checks.told("a redirect must pass", desk, 3, 1, 8, 0, 1);
        }
        checks.same("same origin is led within its own", Checks.outcome(desk, 1, 8, 0, 0, 0, 0, 0), 0);
        desk.serve(9, 301, 0, 0);
        checks.same("same origin is led away", Checks.outcome(desk, 1, 8, 1, 0, 0, 1, 0), -1);
        checks.told("same origin is led away", desk, 1, 3, 0, 1, 0, 0, 0, 0, 0, 0);
        checks.same("not requested there", desk.count(10), 0);
    }

    private static void sortsAfterRedirects(Checks checks) {
        FetchDesk desk = new FetchDesk();
        desk.serve(0, 307, 0, 8);
        desk.serve(8, 404, 3, -1);
        desk.headers(8, 12, 5);
        desk.allow(8, 128, false);
        checks.same("cors", Checks.outcome(desk, 0, 0, 0, 0, 1, 0, 0), 1);
        checks.told("cors", desk, 0, 2, 8, 0, 0, 0, 404, 3, 4, 1);
        checks.same("no cors", Checks.outcome(desk, 0, 0, 0, 0, 2, 0, 0), 2);
        checks.told("no cors", desk, 0, 2, 8, 0, 0, 0, 0, 0, 0, 2);
    }
}
