/** Promise 1. */
public final class NewObjectTest {
    public static void main(String[] args) {
        Checks checks = new Checks("a new object");
        nothingWasFetched(checks);
        resourcesAreEmpty(checks);
        resourcesAllowNobody(checks);
        resourcesAreNotOk(checks);
        objectsShareNothing(checks);
        checks.end();
    }

    private static void nothingWasFetched(Checks checks) {
        FetchDesk desk = new FetchDesk();
        checks.told("before a fetch", desk, 0, 0, 0, 0, 0, 0, 0, 0, 0, 0);
        checks.counts("before a fetch", desk, 0, 0, 0, 0, 0, 0);
        for (int url = 0; url < 48; url++) {
            checks.same("count(10 + " + url + ")", desk.count(10 + url), 0);
            checks.same("count(60 + " + url + ")", desk.count(60 + url), 0);
        }
        checks.sameDouble("the time begins at 0", desk.tick(1.5), 1.5);
    }

    private static void resourcesAreEmpty(Checks checks) {
        for (int url = 0; url < 48; url++) {
            FetchDesk desk = new FetchDesk();
            checks.same("near fetch of " + url, Checks.outcome(desk, url / 8, url, 0, 0, 0, 0, 1), 0);
            checks.told("near fetch of " + url, desk, 0, 1, url, url / 8, 0, 0, 200, 0, 0, 0);
        }
    }

    private static void resourcesAllowNobody(Checks checks) {
        FetchDesk desk = new FetchDesk();
        for (int url = 0; url < 48; url++) {
            int far = (url / 8 + 1) % 6;
            checks.same("far fetch of " + url, Checks.outcome(desk, far, url, 0, 0, 1, 0, 0), -3);
            checks.same("allowed before at " + url, desk.allow(url, 255, false), 0);
        }
    }

    private static void resourcesAreNotOk(Checks checks) {
        FetchDesk desk = new FetchDesk();
        for (int url = 0; url < 48; url++) {
            int far = (url / 8 + 1) % 6;
            desk.allow(url, 255, true);
            checks.same("asking for a header at " + url, Checks.outcome(desk, far, url, 0, 1, 1, 0, 0), -2);
        }
    }

    private static void objectsShareNothing(Checks checks) {
        FetchDesk one = new FetchDesk();
        FetchDesk other = new FetchDesk();
        one.serve(0, 404, 9, -1);
        one.tick(3);
        one.fetch(0, 0, 0, 0, 0, 0, 0);
        checks.told("the other object", other, 0, 0, 0, 0, 0, 0, 0, 0, 0, 0);
        other.fetch(0, 0, 0, 0, 0, 0, 0);
        checks.same("the other object's status", other.told(6), 200);
        checks.sameDouble("the other object's time", other.tick(1), 1);
    }
}
