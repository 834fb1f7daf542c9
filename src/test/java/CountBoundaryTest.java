/** Promise 11: the boundary cases. */
public final class CountBoundaryTest {
    /** Those that would be good numbers after a wrap-around are among them. */
    private static final int[] WRONG = {Integer.MIN_VALUE, Integer.MIN_VALUE + 9, Integer.MIN_VALUE + 10,
        Integer.MIN_VALUE + 57, Integer.MIN_VALUE + 60, -60, -10, -1, 6, 7, 8, 9, 58, 59, 108, 109, 110, 256,
        Integer.MAX_VALUE - 60, Integer.MAX_VALUE - 9, Integer.MAX_VALUE};

    public static void main(String[] args) {
        Checks checks = new Checks("count, boundaries");
        checks.sentence("0: REQUESTS, 1: ERRORS", CountBoundaryTest::requestsAndErrors);
        checks.sentence("2: how often RESOURCES were REQUESTED, 3: ASKED", CountBoundaryTest::requestedAndAsked);
        checks.sentence("4: how often that was REMEMBERED", CountBoundaryTest::remembered);
        checks.sentence("5: how many are there", CountBoundaryTest::howMany);
        checks.sentence("10 + u: how often URL u was REQUESTED", CountBoundaryTest::ofUrls);
        checks.sentence("60 + u: with CREDENTIALS", CountBoundaryTest::withCredentials);
        checks.sentence("IllegalArgumentException for others", CountBoundaryTest::others);
        checks.end();
    }

    private static void requestsAndErrors(Checks checks) {
        FetchDesk desk = new FetchDesk();
        checks.counts("none", desk, 0, 0);
        desk.fetch(0, 0, 0, 0, 0, 0, 0);
        checks.counts("one", desk, 1, 0);
        checks.same("an ERROR", Checks.outcome(desk, 0, 8, 0, 0, 0, 0, 0), -1);
        checks.counts("an ERROR is a REQUEST, too", desk, 2, 1);
        checks.refuses("no REQUEST", Checks.ILLEGAL, () -> desk.fetch(0, 48, 0, 0, 0, 0, 0));
        checks.counts("no REQUEST", desk, 2, 1);
        desk.serve(0, 307, 0, 1);
        desk.fetch(0, 0, 0, 0, 0, 0, 0);
        checks.counts("one of 2 ROUNDS", desk, 3, 1);
    }

    private static void requestedAndAsked(Checks checks) {
        FetchDesk desk = Desks.open(0);
        checks.same("a MODE of SAME ORIGIN", Checks.outcome(desk, 0, 8, 2, 0, 0, 0, 0), -1);
        checks.counts("neither", desk, 1, 1, 0, 0);
        desk.fetch(0, 8, 0, 0, 1, 0, 0);
        checks.counts("REQUESTED alone", desk, 2, 1, 1, 0);
        desk.fetch(0, 8, 2, 0, 1, 0, 0);
        checks.counts("both", desk, 3, 1, 2, 1);
        desk.asked(8, false, 15, 15, 0);
        checks.same("not OK", Checks.outcome(desk, 0, 8, 2, 0, 1, 0, 0), -2);
        checks.counts("ASKED alone", desk, 4, 2, 2, 2);
        desk.asked(8, true, 15, 15, 0);
        desk.serve(8, 308, 0, 8);
        checks.same("round and round", Checks.outcome(desk, 0, 8, 2, 0, 1, 0, 0), -5);
        checks.counts("in each ROUND", desk, 5, 3, 7, 7);
    }

    private static void remembered(Checks checks) {
        FetchDesk desk = Desks.open(5);
        desk.fetch(0, 8, 2, 0, 1, 0, 0);
        checks.counts("not yet", desk, 1, 0, 1, 1, 0);
        desk.fetch(0, 8, 2, 0, 1, 0, 0);
        checks.counts("once", desk, 2, 0, 2, 1, 1);
        desk.fetch(0, 8, 0, 0, 1, 0, 0);
        desk.fetch(1, 8, 2, 0, 1, 0, 0);
        desk.fetch(0, 8, 0, 0, 2, 0, 0);
        checks.counts("where nothing is to be ASKED", desk, 5, 0, 5, 1, 1);
        desk.serve(8, 308, 0, 8);
        checks.same("round and round", Checks.outcome(desk, 0, 8, 2, 0, 1, 0, 0), -5);
        checks.counts("in each ROUND", desk, 6, 1, 10, 1, 6);
        desk.allow(8, 0, false);
        checks.same("ERROR 3 after it", Checks.outcome(desk, 0, 8, 2, 0, 1, 0, 0), -3);
        checks.counts("ERROR 3 after it", desk, 7, 2, 11, 1, 7);
    }

    private static void howMany(Checks checks) {
        FetchDesk desk = Desks.open(0);
        for (int there = 0; there < 6; there++) {
            checks.same("there", desk.count(5), there);
            Desks.remember(desk, 8 + there, 5);
        }
        checks.same("6", desk.count(5), 6);
        Desks.remember(desk, 14, 5);
        checks.same("6 at most", desk.count(5), 6);
        desk.tick(5);
        checks.same("the ended ones are there", desk.count(5), 6);
        for (int there = 5; there >= 0; there--) {
            Desks.remember(desk, 14 - there, 0);
            checks.same("one is forgotten", desk.count(5), there);
        }
    }

    private static void ofUrls(Checks checks) {
        for (int url : new int[] {0, 1, 46, 47}) {
            FetchDesk desk = new FetchDesk();
            desk.fetch(url / 8, url, 0, 0, 0, 0, 0);
            desk.fetch(2, url, 0, 0, 2, 0, 0);
            for (int other = 0; other < 48; other++) {
                checks.same("fetched " + url + ", count(10 + " + other + ")", desk.count(10 + other), other == url ? 2 : 0);
                checks.same("fetched " + url + ", count(60 + " + other + ")", desk.count(60 + other), 0);
            }
        }
    }

    private static void withCredentials(Checks checks) {
        for (int url : new int[] {0, 1, 46, 47}) {
            FetchDesk desk = new FetchDesk();
            desk.fetch(url / 8, url, 0, 0, 0, 1, 0);
            desk.fetch(2, url, 0, 0, 2, 1, 0);
            desk.fetch(2, url, 0, 0, 2, 2, 0);
            for (int other = 0; other < 48; other++) {
                checks.same("fetched " + url + ", count(10 + " + other + ")", desk.count(10 + other), other == url ? 3 : 0);
                checks.same("fetched " + url + ", count(60 + " + other + ")", desk.count(60 + other), other == url ? 2 : 0);
            }
        }
    }

    private static void others(Checks checks) {
        FetchDesk desk = new FetchDesk();
        checks.refusesEach("count", WRONG, desk::count);
        for (int good : new int[] {0, 5, 10, 57, 60, 107}) {
            checks.same("count(" + good + ")", desk.count(good), 0);
        }
    }
}
