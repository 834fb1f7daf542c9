/** Promise 1 and what the Terms say of how all begins: the boundary cases. */
public final class NewObjectBoundaryTest {
    public static void main(String[] args) {
        Checks checks = new Checks("a new object, boundaries");
        checks.sentence("All RESOURCES are empty", NewObjectBoundaryTest::resourcesAreEmpty);
        checks.sentence("a STATUS (200 at first, to 599)", NewObjectBoundaryTest::statusIs200);
        checks.sentence("a TARGET (a URL, -1 at first)", NewObjectBoundaryTest::noTarget);
        checks.sentence("ALLOW nobody", NewObjectBoundaryTest::nobodyIsAllowed);
        checks.sentence("ALLOW nobody: not the UNKNOWN one either", NewObjectBoundaryTest::unknownIsNotAllowed);
        checks.sentence("are not OK when they are ASKED", NewObjectBoundaryTest::notOk);
        checks.sentence("nothing was fetched", NewObjectBoundaryTest::nothingWasFetched);
        checks.sentence("THE TIME is in seconds, a double, 0 at first", NewObjectBoundaryTest::timeIsZero);
        checks.sentence("FetchDesk(): each object has its own", NewObjectBoundaryTest::objectsShareNothing);
        checks.end();
    }

    private static void resourcesAreEmpty(Checks checks) {
        FetchDesk desk = new FetchDesk();
        for (int url = 0; url < 48; url++) {
            desk.fetch(url / 8, url, 0, 0, 0, 0, 0);
            checks.same("BODY of URL " + url, desk.told(7), 0);
            checks.same("HEADERS of URL " + url, desk.told(8), 0);
        }
        FetchDesk all = new FetchDesk();
        for (int url = 0; url < 48; url++) {
            all.allow(url, 128, false);
            all.headers(url, 0, 15);
            all.fetch((url / 8 + 1) % 6, url, 0, 0, 1, 0, 0);
            checks.same("far, BODY of URL " + url, all.told(7), 0);
            checks.same("far, HEADERS of URL " + url, all.told(8), 0);
        }
    }

    private static void statusIs200(Checks checks) {
        FetchDesk desk = new FetchDesk();
        for (int url = 0; url < 48; url++) {
            desk.fetch(url / 8, url, 0, 0, 0, 0, 0);
            checks.same("STATUS of URL " + url, desk.told(6), 200);
        }
    }

    /** With the STATUS 200 no TARGET can be seen; that none is led away is all that can. */
    private static void noTarget(Checks checks) {
        for (int redirects = 0; redirects < 3; redirects++) {
            FetchDesk desk = new FetchDesk();
            for (int url = 0; url < 48; url++) {
                checks.same("URL " + url + " is no REDIRECT", Checks.outcome(desk, url / 8, url, 0, 0, 0, 0, redirects), 0);
                checks.same("the last URL", desk.told(2), url);
                checks.same("ROUNDS", desk.told(1), 1);
            }
        }
    }

    private static void nobodyIsAllowed(Checks checks) {
        for (int origin = 0; origin < 6; origin++) {
            FetchDesk desk = new FetchDesk();
            for (int url = 0; url < 48; url++) {
                int due = url / 8 == origin ? 0 : -3;
                checks.same("ORIGIN " + origin + " at URL " + url, Checks.outcome(desk, origin, url, 0, 0, 1, 0, 0), due);
                checks.same("the same with INCLUDE", Checks.outcome(desk, origin, url, 0, 0, 1, 2, 0), due);
            }
            for (int url = 0; url < 48; url++) {
                checks.same("what URL " + url + " allowed", desk.allow(url, 1, false), 0);
            }
        }
    }

    private static void unknownIsNotAllowed(Checks checks) {
        FetchDesk desk = new FetchDesk();
        desk.serve(8, 307, 0, 16);
        desk.allow(8, 1, false);
        checks.same("a new RESOURCE", Checks.outcome(desk, 0, 8, 0, 0, 1, 0, 0), -3);
        checks.same("the ORIGIN is the UNKNOWN one", desk.told(3), 6);
        checks.same("what it allowed", desk.allow(16, 64, false), 0);
        checks.same("as soon as it is allowed", Checks.outcome(desk, 0, 8, 0, 0, 1, 0, 0), 1);
    }

    private static void notOk(Checks checks) {
        FetchDesk desk = new FetchDesk();
        for (int url = 0; url < 48; url++) {
            int far = (url / 8 + 1) % 6;
            desk.allow(url, 127, true);
            checks.same("a HEADER at URL " + url, Checks.outcome(desk, far, url, 0, 1, 1, 0, 0), -2);
            checks.same("PUT at URL " + url, Checks.outcome(desk, far, url, 2, 0, 1, 2, 0), -2);
            checks.same("GET at URL " + url, Checks.outcome(desk, far, url, 0, 0, 1, 2, 0), 1);
            desk.asked(url, true, 4, 0, 0);
            checks.same("PUT at URL " + url + ", OK now", Checks.outcome(desk, far, url, 2, 0, 1, 2, 0), 1);
        }
    }

    private static void nothingWasFetched(Checks checks) {
        FetchDesk desk = new FetchDesk();
        checks.told("new", desk, 0, 0, 0, 0, 0, 0, 0, 0, 0, 0);
        checks.counts("new", desk, 0, 0, 0, 0, 0, 0);
        for (int url = 0; url < 48; url++) {
            checks.same("count(10 + " + url + ")", desk.count(10 + url), 0);
            checks.same("count(60 + " + url + ")", desk.count(60 + url), 0);
        }
        checks.refuses("kept(0, 0)", Checks.NO_SUCH, () -> desk.kept(0, 0));
        checks.refuses("left(0)", Checks.NO_SUCH, () -> desk.left(0));
        desk.fetch(0, 0, 0, 0, 0, 0, 0);
        checks.counts("after the first", desk, 1, 0, 1, 0, 0, 0);
    }

    private static void timeIsZero(Checks checks) {
        checks.sameDouble("the least tick", new FetchDesk().tick(Double.MIN_VALUE), Double.MIN_VALUE);
        checks.sameDouble("the longest tick", new FetchDesk().tick(1000), 1000);
        FetchDesk desk = Desks.open(0);
        Desks.remember(desk, 8, Double.MIN_VALUE);
        checks.sameDouble("an end that close to 0", desk.left(0), Double.MIN_VALUE);
        checks.same("is not reached", desk.kept(0, 5), 1);
    }

    private static void objectsShareNothing(Checks checks) {
        FetchDesk one = new FetchDesk();
        FetchDesk other = new FetchDesk();
        one.serve(0, 404, 9, -1);
        one.tick(3);
        one.fetch(0, 0, 0, 0, 0, 0, 0);
        checks.told("the other object", other, 0, 0, 0, 0, 0, 0, 0, 0, 0, 0);
        other.fetch(0, 0, 0, 0, 0, 0, 0);
        checks.same("the other object's status", other.told(6), 200);
        checks.sameDouble("the other object's time", other.tick(1), 1);
    }
}
