/** Promise 7 and the block on ROUNDS: the boundary cases. */
public final class RoundsBoundaryTest {
    private static final int[] REDIRECT_STATUSES = {301, 302, 303, 307, 308};

    public static void main(String[] args) {
        Checks checks = new Checks("rounds, boundaries");
        checks.sentence("URL u being of ORIGIN u / 8; NEAR if its ORIGIN is that of the REQUEST", RoundsBoundaryTest::near);
        checks.sentence("and no ROUND before was FAR", RoundsBoundaryTest::farBefore);
        checks.sentence("with SAME ORIGIN it is an ERROR 1", RoundsBoundaryTest::errorOne);
        checks.sentence("if the METHOD is not SIMPLE, or there are HEADERS, it is ASKED for", RoundsBoundaryTest::whenAsked);
        checks.sentence("CREDENTIALS are SENT with INCLUDE, or with SAME ORIGIN in a NEAR ROUND", RoundsBoundaryTest::sent);
        checks.sentence("REQUESTED (that is counted), with CREDENTIALS or not", RoundsBoundaryTest::requested);
        checks.sentence("In a FAR ROUND with CORS it must PASS, else it is an ERROR 3", RoundsBoundaryTest::errorThree);
        checks.sentence("With a STATUS 301, 302, 303, 307, 308 and a TARGET", RoundsBoundaryTest::whatIsARedirect);
        checks.sentence("with ERROR an ERROR 4", RoundsBoundaryTest::errorFour);
        checks.sentence("with MANUAL that is THE RESPONSE, of sort 3", RoundsBoundaryTest::manual);
        checks.sentence("if there were 4 REDIRECTS before, an ERROR 5", RoundsBoundaryTest::errorFive);
        checks.sentence("if there were 4 REDIRECTS before: what comes sooner", RoundsBoundaryTest::soonerThanErrorFive);
        checks.sentence("this one becomes UNKNOWN (6)", RoundsBoundaryTest::unknown);
        checks.sentence("the METHOD becomes GET", RoundsBoundaryTest::becomesGet);
        checks.sentence("GET, without HEADERS", RoundsBoundaryTest::withoutHeaders);
        checks.sentence("of sort 0 if all ROUNDS were NEAR, else 1 with CORS, 2 with NO CORS", RoundsBoundaryTest::sorts);
        checks.sentence("of sort 0 all; of 1 EXPOSED; of 2 and 3 none, STATUS 0, BODY 0", RoundsBoundaryTest::whatIsTold);
        checks.end();
    }

    private static void near(Checks checks) {
        for (int origin = 0; origin < 6; origin++) {
            FetchDesk desk = new FetchDesk();
            for (int url = 0; url < 48; url++) {
                boolean near = url >= 8 * origin && url <= 8 * origin + 7;
                String what = "ORIGIN " + origin + " at URL " + url;
                checks.same(what + ", SAME ORIGIN", Checks.outcome(desk, origin, url, 0, 0, 0, 0, 0), near ? 0 : -1);
                checks.same(what + ", CORS", Checks.outcome(desk, origin, url, 0, 0, 1, 0, 0), near ? 0 : -3);
                checks.same(what + ", NO CORS", Checks.outcome(desk, origin, url, 0, 0, 2, 0, 0), near ? 0 : 2);
            }
        }
    }

    private static void farBefore(Checks checks) {
        FetchDesk desk = new FetchDesk();
        desk.serve(8, 307, 0, 7);
        desk.allow(8, 1, false);
        checks.same("back, CORS", Checks.outcome(desk, 0, 8, 0, 0, 1, 1, 0), -3);
        checks.told("back, CORS", desk, 3, 2, 7, 6, 0, 0, 0, 0, 0, 0);
        checks.same("back, NO CORS", Checks.outcome(desk, 0, 8, 0, 0, 2, 1, 0), 2);
        checks.told("back, NO CORS", desk, 0, 2, 7, 6, 0, 0, 0, 0, 0, 2);
        checks.same("no CREDENTIALS were SENT there", desk.count(67), 0);
        checks.same("at once, NEAR", Checks.outcome(desk, 0, 7, 0, 0, 1, 1, 0), 0);
        checks.same("CREDENTIALS were SENT", desk.count(67), 1);
        desk.serve(6, 307, 0, 7);
        checks.same("NEAR before", Checks.outcome(desk, 0, 6, 0, 0, 1, 1, 0), 0);
        checks.same("CREDENTIALS were SENT again", desk.count(67), 2);
    }

    private static void errorOne(Checks checks) {
        for (int rounds = 1; rounds <= 5; rounds++) {
            FetchDesk desk = Desks.open(5);
            int first = Desks.lead(desk, rounds, 8);
            checks.same("FAR in ROUND " + rounds, Checks.outcome(desk, 0, first, 2, 1, 0, 2, 0), -1);
            checks.told("FAR in ROUND " + rounds, desk, 1, rounds, 8, 0, 2, 1, 0, 0, 0, 0);
            checks.counts("it is not REQUESTED there, nor ASKED", desk, 1, 1, rounds - 1, 0, 0, 0);
            checks.same("count(18)", desk.count(18), 0);
            FetchDesk near = new FetchDesk();
            first = Desks.lead(near, rounds, 7);
            checks.same("NEAR in ROUND " + rounds, Checks.outcome(near, 0, first, 2, 1, 0, 2, 0), 0);
        }
    }

    private static void whenAsked(Checks checks) {
        for (int method = 0; method < 4; method++) {
            for (int headers : new int[] {0, 1, 8, 15}) {
                FetchDesk desk = Desks.open(0);
                String what = "METHOD " + method + ", HEADERS " + headers;
                int due = method > 1 || headers > 0 ? 1 : 0;
                desk.fetch(0, 8, method, headers, 1, 0, 0);
                checks.same(what + ", FAR", desk.count(3), due);
                desk.fetch(1, 8, method, headers, 1, 0, 0);
                checks.same(what + ", NEAR", desk.count(3), due);
                desk.fetch(1, 8, method, headers, 0, 0, 0);
                checks.same(what + ", SAME ORIGIN", desk.count(3), due);
                if (due == 0) {
                    desk.fetch(0, 8, method, headers, 2, 0, 0);
                    checks.same(what + ", NO CORS", desk.count(3), 0);
                }
            }
        }
    }

    private static void sent(Checks checks) {
        int[][] due = {{0, 0}, {1, 0}, {1, 1}};
        for (int credentials = 0; credentials < 3; credentials++) {
            for (int mode = 1; mode < 3; mode++) {
                FetchDesk desk = Desks.open(0);
                desk.serve(0, 307, 0, 8);
                desk.fetch(0, 1, 0, 0, mode, credentials, 0);
                checks.same("NEAR with " + credentials, desk.told(5), due[credentials][0]);
                desk.fetch(0, 8, 0, 0, mode, credentials, 0);
                checks.same("FAR with " + credentials, desk.told(5), due[credentials][1]);
                desk.fetch(0, 0, 0, 0, mode, credentials, 0);
                checks.same("NEAR, then FAR, with " + credentials, desk.told(5), due[credentials][1]);
                checks.same("the NEAR one of these", desk.count(60), due[credentials][0]);
                checks.same("the FAR ones", desk.count(68), 2 * due[credentials][1]);
            }
        }
    }

    private static void requested(Checks checks) {
        FetchDesk desk = Desks.open(0);
        desk.serve(0, 307, 0, 47);
        desk.fetch(0, 0, 0, 0, 1, 1, 0);
        checks.same("the first URL", desk.count(10), 1);
        checks.same("with CREDENTIALS", desk.count(60), 1);
        checks.same("the last URL", desk.count(57), 1);
        checks.same("without CREDENTIALS", desk.count(107), 0);
        checks.same("in all", desk.count(2), 2);
        desk.allow(47, 0, false);
        checks.same("what does not PASS", Checks.outcome(desk, 0, 47, 0, 0, 1, 2, 0), -3);
        checks.same("was REQUESTED all the same", desk.count(57), 2);
        checks.same("with CREDENTIALS", desk.count(107), 1);
    }

    private static void errorThree(Checks checks) {
        for (int rounds = 1; rounds <= 5; rounds++) {
            FetchDesk desk = Desks.open(0);
            desk.allow(8, 126, true);
            int first = Desks.lead(desk, rounds, 8);
            checks.same("ROUND " + rounds, Checks.outcome(desk, 0, first, 1, 0, 1, 1, 0), -3);
            checks.told("ROUND " + rounds, desk, 3, rounds, 8, 0, 1, 0, 0, 0, 0, 0);
            checks.counts("ROUND " + rounds, desk, 1, 1, rounds, 0, 0, 0);
            desk.allow(8, 1, false);
            checks.same("PASSED in ROUND " + rounds, Checks.outcome(desk, 0, first, 1, 0, 1, 1, 0), 1);
            desk.allow(8, 0, false);
            checks.same("NO CORS in ROUND " + rounds, Checks.outcome(desk, 0, first, 1, 0, 2, 1, 0), 2);
            checks.same("NEAR need not PASS", Checks.outcome(desk, 1, 8, 1, 0, 1, 2, 0), 0);
        }
    }

    private static void whatIsARedirect(Checks checks) {
        for (int status : new int[] {200, 299, 300, 301, 302, 303, 304, 305, 306, 307, 308, 309, 310, 399, 400, 599}) {
            boolean redirect = status >= 301 && status <= 303 || status == 307 || status == 308;
            for (int target : new int[] {0, 47}) {
                FetchDesk desk = Desks.open(0);
                desk.serve(20, status, 5, target);
                desk.fetch(2, 20, 0, 0, 1, 0, 0);
                checks.same(status + " with the TARGET " + target, desk.told(2), redirect ? target : 20);
                checks.same("ROUNDS", desk.told(1), redirect ? 2 : 1);
            }
            for (int redirects = 0; redirects < 3; redirects++) {
                FetchDesk desk = new FetchDesk();
                desk.serve(20, status, 5, -1);
                checks.same(status + " without a TARGET", Checks.outcome(desk, 2, 20, 1, 0, 1, 0, redirects), 0);
                checks.told(status + " without a TARGET", desk, 0, 1, 20, 2, 1, 0, status, 5, 0, 0);
            }
        }
    }

    private static void errorFour(Checks checks) {
        for (int status : REDIRECT_STATUSES) {
            FetchDesk desk = Desks.open(0);
            desk.serve(8, status, 5, 16);
            checks.same("FAR, " + status, Checks.outcome(desk, 0, 8, 1, 3, 1, 2, 1), -4);
            checks.told("FAR, " + status, desk, 4, 1, 8, 0, 1, 1, 0, 0, 0, 0);
            checks.same("NEAR, " + status, Checks.outcome(desk, 1, 8, 3, 3, 0, 1, 1), -4);
            checks.told("NEAR, " + status, desk, 4, 1, 8, 1, 3, 1, 0, 0, 0, 0);
            checks.counts("REQUESTED, but for the TARGET", desk, 2, 2, 2, 1, 0, 0);
            desk.allow(8, 0, false);
            checks.same("it must PASS before", Checks.outcome(desk, 0, 8, 1, 0, 1, 0, 1), -3);
            desk.serve(8, status, 5, -1);
            checks.same("no REDIRECT, " + status, Checks.outcome(desk, 1, 8, 3, 3, 0, 1, 1), 0);
        }
    }

    private static void manual(Checks checks) {
        for (int status : REDIRECT_STATUSES) {
            FetchDesk desk = Desks.open(0);
            desk.serve(8, status, 5, 16);
            desk.headers(8, 15, 15);
            for (int mode = 0; mode < 3; mode++) {
                checks.same("NEAR, " + status, Checks.outcome(desk, 1, 8, 1, 0, mode, 1, 2), 3);
                checks.told("NEAR, " + status, desk, 0, 1, 8, 1, 1, 1, 0, 0, 0, 3);
            }
            for (int mode = 1; mode < 3; mode++) {
                checks.same("FAR, " + status, Checks.outcome(desk, 0, 8, 1, 0, mode, 1, 2), 3);
                checks.told("FAR, " + status, desk, 0, 1, 8, 0, 1, 0, 0, 0, 0, 3);
            }
            checks.counts("the TARGET is not REQUESTED", desk, 5, 0, 5, 0, 0, 0);
            desk.allow(8, 0, false);
            checks.same("it must PASS before", Checks.outcome(desk, 0, 8, 1, 0, 1, 0, 2), -3);
            desk.serve(8, status, 5, -1);
            checks.same("no REDIRECT, " + status, Checks.outcome(desk, 1, 8, 1, 0, 1, 0, 2), 0);
        }
    }

    private static void errorFive(Checks checks) {
        for (int rounds = 1; rounds <= 5; rounds++) {
            FetchDesk desk = new FetchDesk();
            int first = Desks.lead(desk, rounds, 7);
            desk.serve(7, 404, rounds, -1);
            checks.same(rounds - 1 + " REDIRECTS", Checks.outcome(desk, 0, first, 2, 0, 0, 0, 0), 0);
            checks.told(rounds - 1 + " REDIRECTS", desk, 0, rounds, 7, 0, 2, 0, 404, rounds, 0, 0);
        }
        FetchDesk five = new FetchDesk();
        Desks.lead(five, 6, 7);
        checks.same("5 REDIRECTS", Checks.outcome(five, 0, 0, 2, 0, 0, 2, 0), -5);
        checks.told("5 REDIRECTS", five, 5, 5, 4, 0, 2, 1, 0, 0, 0, 0);
        checks.counts("5 REDIRECTS", five, 1, 1, 5, 0, 0, 0);
        checks.same("the TARGET of the fifth is not REQUESTED", five.count(17), 0);
        checks.same("4 of them", Checks.outcome(five, 0, 1, 2, 0, 0, 2, 0), 0);
        FetchDesk ring = new FetchDesk();
        ring.serve(47, 301, 0, 47);
        checks.same("to itself", Checks.outcome(ring, 5, 47, 0, 0, 0, 0, 0), -5);
        checks.same("REQUESTED", ring.count(57), 5);
        ring.serve(47, 303, 0, 0);
        ring.serve(0, 303, 0, 47);
        checks.same("there and back", Checks.outcome(ring, 5, 47, 1, 0, 2, 0, 0), -5);
        checks.told("there and back", ring, 5, 5, 47, 6, 0, 0, 0, 0, 0, 0);
    }

    /** In the fifth ROUND: what it is an ERROR for before it is known to be a REDIRECT, and what is not followed. */
    private static void soonerThanErrorFive(Checks checks) {
        FetchDesk desk = new FetchDesk();
        Desks.lead(desk, 5, 8);
        desk.serve(8, 303, 0, 16);
        desk.asked(8, true, 15, 15, 0);
        checks.same("ERROR 1", Checks.outcome(desk, 0, 0, 1, 0, 0, 0, 0), -1);
        checks.same("ERROR 2", Checks.outcome(desk, 0, 0, 2, 0, 1, 0, 0), -2);
        checks.same("ERROR 3", Checks.outcome(desk, 0, 0, 1, 0, 1, 0, 0), -3);
        desk.allow(8, 1, false);
        checks.same("ERROR 5", Checks.outcome(desk, 0, 0, 1, 0, 1, 0, 0), -5);
        checks.told("neither METHOD nor ORIGIN become others", desk, 5, 5, 8, 0, 1, 0, 0, 0, 0, 0);
        checks.same("ERROR 5 with NO CORS", Checks.outcome(desk, 0, 0, 1, 0, 2, 0, 0), -5);
    }

    private static void unknown(Checks checks) {
        for (int origin = 0; origin < 6; origin++) {
            for (int first = 0; first < 6; first++) {
                for (int second = 0; second < 6; second++) {
                    FetchDesk desk = new FetchDesk();
                    desk.serve(first * 8, 307, 0, second * 8 + 7);
                    desk.fetch(origin, first * 8, 0, 0, 2, 0, 0);
                    int due = second != first && first != origin ? 6 : origin;
                    checks.same("ORIGIN " + origin + " led from " + first + " to " + second, desk.told(3), due);
                }
            }
        }
        FetchDesk desk = new FetchDesk();
        desk.serve(8, 307, 0, 16);
        desk.serve(16, 307, 0, 17);
        desk.serve(17, 307, 0, 0);
        desk.fetch(0, 8, 0, 0, 2, 0, 0);
        checks.told("UNKNOWN it stays", desk, 0, 4, 0, 6, 0, 0, 0, 0, 0, 2);
    }

    private static void becomesGet(Checks checks) {
        int[][] due = {{0, 0, 2, 3}, {0, 0, 2, 3}, {0, 0, 0, 0}, {0, 1, 2, 3}, {0, 1, 2, 3}};
        for (int i = 0; i < 5; i++) {
            for (int method = 0; method < 4; method++) {
                FetchDesk desk = new FetchDesk();
                desk.serve(0, REDIRECT_STATUSES[i], 0, 1);
                desk.fetch(0, 0, method, 0, 0, 0, 0);
                checks.same("METHOD " + method + " after " + REDIRECT_STATUSES[i], desk.told(4), due[i][method]);
                desk.serve(0, REDIRECT_STATUSES[i], 0, -1);
                desk.fetch(0, 0, method, 0, 0, 0, 0);
                checks.same("METHOD " + method + " without a TARGET", desk.told(4), method);
            }
        }
    }

    /** URL 8 lets all METHODS and no HEADERS, so that HEADERS which are still there make an ERROR 2. */
    private static void withoutHeaders(Checks checks) {
        boolean[][] without = {{false, true, false, false}, {false, true, false, false}, {false, true, true, true},
            {false, false, false, false}, {false, false, false, false}};
        for (int i = 0; i < 5; i++) {
            for (int method = 0; method < 4; method++) {
                for (int headers : new int[] {1, 8, 15}) {
                    FetchDesk desk = new FetchDesk();
                    desk.serve(0, REDIRECT_STATUSES[i], 0, 8);
                    desk.allow(8, 1, false);
                    desk.asked(8, true, 15, 0, 0);
                    checks.same("METHOD " + method + ", HEADERS " + headers + ", " + REDIRECT_STATUSES[i],
                            Checks.outcome(desk, 0, 0, method, headers, 1, 0, 0), without[i][method] ? 1 : -2);
                }
            }
        }
    }

    private static void sorts(Checks checks) {
        for (int rounds = 1; rounds <= 5; rounds++) {
            FetchDesk near = new FetchDesk();
            int first = Desks.lead(near, rounds, 7);
            for (int mode = 0; mode < 3; mode++) {
                checks.same("all " + rounds + " NEAR, MODE " + mode, Checks.outcome(near, 0, first, 0, 0, mode, 0, 0), 0);
            }
            FetchDesk far = new FetchDesk();
            first = Desks.lead(far, rounds, 8);
            far.allow(8, 128, false);
            for (int mode = 1; mode < 3; mode++) {
                checks.same("the last of " + rounds + " FAR", Checks.outcome(far, 0, first, 0, 0, mode, 0, 0), mode);
            }
        }
    }

    private static void whatIsTold(Checks checks) {
        FetchDesk desk = new FetchDesk();
        desk.serve(8, 599, Integer.MIN_VALUE, -1);
        desk.headers(8, 15, 8);
        desk.allow(8, 1, false);
        desk.serve(9, 308, 7, 8);
        desk.headers(9, 15, 15);
        desk.allow(9, 1, false);
        desk.fetch(1, 8, 0, 0, 2, 0, 0);
        checks.told("sort 0", desk, 0, 1, 8, 1, 0, 0, 599, Integer.MIN_VALUE, 15, 0);
        desk.fetch(0, 8, 0, 0, 1, 0, 0);
        checks.told("sort 1", desk, 0, 1, 8, 0, 0, 0, 599, Integer.MIN_VALUE, 8, 1);
        desk.fetch(0, 8, 0, 0, 2, 0, 0);
        checks.told("sort 2", desk, 0, 1, 8, 0, 0, 0, 0, 0, 0, 2);
        desk.fetch(0, 9, 0, 0, 1, 0, 2);
        checks.told("sort 3", desk, 0, 1, 9, 0, 0, 0, 0, 0, 0, 3);
        desk.fetch(0, 9, 0, 0, 1, 0, 0);
        checks.told("sort 1 of the TARGET", desk, 0, 2, 8, 0, 0, 0, 599, Integer.MIN_VALUE, 8, 1);
    }
}
