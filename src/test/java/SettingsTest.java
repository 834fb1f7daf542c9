/** Promises 2 to 5: what is set for a RESOURCE holds from then on. */
public final class SettingsTest {
    public static void main(String[] args) {
        Checks checks = new Checks("settings");
        serveHolds(checks);
        headersHold(checks);
        allowHolds(checks);
        askedHolds(checks);
        checks.end();
    }

    private static void serveHolds(Checks checks) {
        FetchDesk desk = new FetchDesk();
        int[] bodies = {0, -1, 7, Integer.MIN_VALUE, Integer.MAX_VALUE};
        int[] statuses = {200, 204, 404, 598, 599};
        for (int i = 0; i < bodies.length; i++) {
            desk.serve(47, statuses[i], bodies[i], i == 0 ? -1 : i == 1 ? 0 : 47);
            checks.same("fetch", desk.fetch(5, 47, 0, 0, 0, 0, 1), 0);
            checks.told("served " + statuses[i], desk, 0, 1, 47, 5, 0, 0, statuses[i], bodies[i], 0, 0);
        }
        desk.serve(0, 307, 1, 47);
        desk.fetch(0, 0, 0, 0, 2, 0, 0);
        checks.same("the target 47 is followed", desk.told(2), 47);
        desk.serve(47, 307, 1, 0);
        desk.serve(0, 299, 1, -1);
        desk.fetch(5, 47, 0, 0, 2, 0, 0);
        checks.same("the target 0 is followed", desk.told(2), 0);
    }

    private static void headersHold(Checks checks) {
        FetchDesk desk = null;
        for (int bits = 0; bits < 256; bits++) {
            if (bits % 64 == 0) {
                desk = new FetchDesk();
                desk.allow(8, 128, false);
            }
            int given = bits & 15;
            int exposed = bits >> 4;
            desk.headers(8, given, exposed);
            desk.fetch(1, 8, 0, 0, 1, 0, 0);
            checks.same("near, given " + given + ", exposed " + exposed, desk.told(8), given);
            desk.fetch(0, 8, 0, 0, 1, 0, 0);
            checks.same("far, given " + given + ", exposed " + exposed, desk.told(8), given & exposed);
        }
    }

    private static void allowHolds(Checks checks) {
        FetchDesk desk = new FetchDesk();
        int before = 0;
        for (int origins = 255; origins >= 0; origins--) {
            checks.same("allow answers what was", desk.allow(47, origins, origins % 2 == 0), before);
            before = origins;
        }
        checks.same("another URL has its own", desk.allow(46, 1, true), 0);
    }

    private static void askedHolds(Checks checks) {
        FetchDesk desk = new FetchDesk();
        desk.allow(8, 128, false);
        desk.asked(8, true, 4, 3, 100);
        checks.same("PUT with header 0", Checks.outcome(desk, 0, 8, 2, 1, 1, 0, 0), 1);
        checks.kept("as it was asked", desk, 0, 0, 8, 0, 4, 3, 1);
        desk.asked(8, false, 15, 15, 100);
        checks.same("PUT is remembered", Checks.outcome(desk, 0, 8, 2, 1, 1, 0, 0), 1);
        checks.same("DELETE, not OK any more", Checks.outcome(desk, 0, 8, 3, 1, 1, 0, 0), -2);
        desk.asked(8, true, 15, 15, 0);
        checks.same("DELETE, OK again", Checks.outcome(desk, 0, 8, 3, 1, 1, 0, 0), 1);
        checks.same("age 0 is not remembered", desk.count(5), 0);
    }
}
