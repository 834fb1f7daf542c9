/** Promise 2: the boundary cases. */
public final class ServeBoundaryTest {
    public static void main(String[] args) {
        Checks checks = new Checks("serve, boundaries");
        checks.sentence("URLS 0 to 47", ServeBoundaryTest::urls);
        checks.sentence("STATUS (200 to 599)", ServeBoundaryTest::statuses);
        checks.sentence("a BODY (an int)", ServeBoundaryTest::bodies);
        checks.sentence("TARGET (-1: none)", ServeBoundaryTest::targets);
        checks.sentence("from now on", ServeBoundaryTest::fromNowOn);
        checks.sentence("IllegalArgumentException if a number is not as said", ServeBoundaryTest::refusedChangesNothing);
        checks.end();
    }

    private static void urls(Checks checks) {
        FetchDesk desk = new FetchDesk();
        checks.refusesEach("URL", Desks.WRONG_URLS, url -> desk.serve(url, 404, 5, -1));
        for (int url = 0; url < 48; url++) {
            checks.same("still empty: " + url, Checks.outcome(desk, url / 8, url, 0, 0, 0, 0, 0), 0);
            checks.same("STATUS of " + url, desk.told(6), 200);
        }
        int[] ends = {0, 1, 46, 47};
        for (int url : ends) {
            FetchDesk one = new FetchDesk();
            one.serve(url, 404, 5, -1);
            for (int other : ends) {
                one.fetch(other / 8, other, 0, 0, 0, 0, 0);
                checks.same("served " + url + ", STATUS of " + other, one.told(6), other == url ? 404 : 200);
                checks.same("served " + url + ", BODY of " + other, one.told(7), other == url ? 5 : 0);
            }
        }
    }

    private static void statuses(Checks checks) {
        FetchDesk desk = new FetchDesk();
        for (int status : new int[] {200, 201, 598, 599}) {
            desk.serve(0, status, 0, -1);
            desk.fetch(0, 0, 0, 0, 0, 0, 0);
            checks.same("STATUS", desk.told(6), status);
        }
        int[] wrong = {Integer.MIN_VALUE, -200, -1, 0, 199, 600, 601, Integer.MAX_VALUE};
        checks.refusesEach("STATUS", wrong, status -> desk.serve(0, status, 0, -1));
    }

    private static void bodies(Checks checks) {
        FetchDesk desk = new FetchDesk();
        desk.allow(47, 1, false);
        for (int body : new int[] {Integer.MIN_VALUE, -1, 0, 1, Integer.MAX_VALUE}) {
            desk.serve(47, 200, body, -1);
            desk.fetch(5, 47, 0, 0, 0, 0, 0);
            checks.same("BODY, near", desk.told(7), body);
            desk.fetch(0, 47, 0, 0, 1, 0, 0);
            checks.same("BODY, far", desk.told(7), body);
        }
    }

    private static void targets(Checks checks) {
        FetchDesk desk = new FetchDesk();
        desk.serve(20, 301, 0, -1);
        checks.same("-1 is none", Checks.outcome(desk, 2, 20, 0, 0, 2, 0, 0), 0);
        checks.told("-1 is none", desk, 0, 1, 20, 2, 0, 0, 301, 0, 0, 0);
        for (int target : new int[] {0, 1, 46, 47}) {
            desk.serve(20, 301, 0, target);
            checks.same("a URL", Checks.outcome(desk, 2, 20, 0, 0, 2, 0, 0), 2);
            checks.told("a URL", desk, 0, 2, target, 2, 0, 0, 0, 0, 0, 2);
        }
        int[] wrong = {Integer.MIN_VALUE, -3, -2, 48, 49, Integer.MAX_VALUE};
        checks.refusesEach("TARGET of a REDIRECT", wrong, target -> desk.serve(20, 301, 0, target));
        checks.refusesEach("TARGET of another", wrong, target -> desk.serve(20, 200, 0, target));
        desk.serve(20, 301, 0, -1);
        checks.same("none again", Checks.outcome(desk, 2, 20, 0, 0, 2, 0, 0), 0);
    }

    private static void fromNowOn(Checks checks) {
        FetchDesk desk = new FetchDesk();
        desk.serve(3, 599, -8, -1);
        desk.fetch(0, 3, 0, 0, 0, 0, 0);
        desk.serve(3, 200, 9, -1);
        checks.same("what was told stays", desk.told(6), 599);
        checks.same("what was told stays", desk.told(7), -8);
        for (int i = 0; i < 3; i++) {
            desk.fetch(0, 3, 0, 0, 0, 0, 0);
            checks.same("STATUS from now on", desk.told(6), 200);
            checks.same("BODY from now on", desk.told(7), 9);
        }
    }

    private static void refusedChangesNothing(Checks checks) {
        int[][] refused = {{-1, 404, 1, -1}, {48, 404, 1, -1}, {3, 199, 1, -1}, {3, 600, 1, -1}, {3, 404, 1, -2},
            {3, 404, 1, 48}, {-1, 199, 1, -2}, {48, 600, 1, 48}};
        FetchDesk desk = new FetchDesk();
        desk.serve(3, 303, 7, 5);
        desk.serve(5, 202, 6, -1);
        for (int[] a : refused) {
            String what = "serve(" + a[0] + ", " + a[1] + ", " + a[2] + ", " + a[3] + ")";
            checks.refuses(what, Checks.ILLEGAL, () -> desk.serve(a[0], a[1], a[2], a[3]));
            checks.same(what + " left STATUS and TARGET", Checks.outcome(desk, 0, 3, 0, 0, 0, 0, 0), 0);
            checks.told(what + " left STATUS and TARGET", desk, 0, 2, 5, 0, 0, 0, 202, 6);
        }
        desk.serve(3, 404, 7, -1);
        checks.refuses("a wrong TARGET", Checks.ILLEGAL, () -> desk.serve(3, 404, 8, 48));
        desk.fetch(0, 3, 0, 0, 0, 0, 0);
        checks.same("a wrong TARGET left the BODY", desk.told(7), 7);
    }
}
