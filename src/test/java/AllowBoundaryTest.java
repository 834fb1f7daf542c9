/** Promise 4: the boundary cases. */
public final class AllowBoundaryTest {
    private static final int UNKNOWN = 6;

    public static void main(String[] args) {
        Checks checks = new Checks("allow, boundaries");
        checks.sentence("URLS 0 to 47", AllowBoundaryTest::urls);
        checks.sentence("these ORIGINS (bits, 0 to 255)", AllowBoundaryTest::origins);
        checks.sentence("what ORIGINS it did", AllowBoundaryTest::answersWhatWas);
        checks.sentence("ORIGINS as bits, bit 6 being the UNKNOWN one", AllowBoundaryTest::eachBitIsOneOrigin);
        checks.sentence("or ALL (bit 7)", AllowBoundaryTest::bitSevenIsAll);
        checks.sentence("CREDENTIALS or not", AllowBoundaryTest::credentials);
        checks.sentence("IllegalArgumentException likewise", AllowBoundaryTest::refusedChangesNothing);
        checks.end();
    }

    private static void urls(Checks checks) {
        FetchDesk desk = new FetchDesk();
        checks.refusesEach("URL", Desks.WRONG_URLS, url -> desk.allow(url, 255, true));
        int[] ends = {0, 1, 46, 47};
        for (int url : ends) {
            FetchDesk one = new FetchDesk();
            one.allow(url, 255, true);
            for (int other : ends) {
                checks.same("set for " + url + ", fetch of " + other, Checks.outcome(one, 2, other, 0, 0, 1, 0, 0),
                        other == url ? 1 : -3);
                int due = other == url ? 255 : 0;
                checks.same("set for " + url + ", what " + other + " did", one.allow(other, 0, false), due);
            }
        }
    }

    private static void origins(Checks checks) {
        FetchDesk desk = new FetchDesk();
        int before = 0;
        for (int origins : new int[] {0, 1, 127, 128, 254, 255, 0}) {
            checks.same("before " + origins, desk.allow(9, origins, false), before);
            before = origins;
        }
        int[] wrong = {Integer.MIN_VALUE, -256, -1, 256, 257, Integer.MAX_VALUE};
        checks.refusesEach("ORIGINS", wrong, origins -> desk.allow(9, origins, false));
    }

    private static void answersWhatWas(Checks checks) {
        FetchDesk desk = new FetchDesk();
        checks.same("the first", desk.allow(0, 255, true), 0);
        checks.same("the second", desk.allow(0, 255, false), 255);
        checks.same("the third", desk.allow(0, 0, true), 255);
        checks.same("the fourth", desk.allow(0, 64, true), 0);
        checks.refuses("a refused one", Checks.ILLEGAL, () -> desk.allow(0, 256, true));
        checks.same("after the refused one", desk.allow(0, 1, true), 64);
        checks.same("another URL", desk.allow(47, 1, true), 0);
    }

    /** URL 8 leads ORIGIN 0 away as the UNKNOWN one; the others ask by themselves. */
    private static int outcomeOf(FetchDesk desk, int origin, int url, int credentials) {
        if (origin == UNKNOWN) {
            desk.serve(8, 307, 0, url);
            desk.allow(8, 1, true);
            return Checks.outcome(desk, 0, 8, 0, 0, 1, credentials, 0);
        }
        return Checks.outcome(desk, origin, url, 0, 0, 1, credentials, 0);
    }

    private static void eachBitIsOneOrigin(Checks checks) {
        for (int bit = 0; bit < 7; bit++) {
            FetchDesk desk = new FetchDesk();
            desk.allow(47, 1 << bit, true);
            desk.allow(7, 1 << bit, true);
            for (int origin = 0; origin <= UNKNOWN; origin++) {
                int url = origin == 5 ? 7 : 47;
                for (int credentials = 0; credentials < 3; credentials++) {
                    checks.same("bit " + bit + " for ORIGIN " + origin, outcomeOf(desk, origin, url, credentials),
                            origin == bit ? 1 : -3);
                    checks.same("the ORIGIN at the end", desk.told(3), origin);
                }
            }
        }
    }

    private static void bitSevenIsAll(Checks checks) {
        for (int origin = 0; origin <= UNKNOWN; origin++) {
            int url = origin == 5 ? 7 : 47;
            FetchDesk desk = new FetchDesk();
            desk.allow(url, 128, true);
            checks.same("ALL for ORIGIN " + origin, outcomeOf(desk, origin, url, 0), 1);
            checks.same("ALL, CREDENTIALS not SENT", outcomeOf(desk, origin, url, 1), 1);
            checks.same("ALL alone, CREDENTIALS SENT", outcomeOf(desk, origin, url, 2), -3);
            desk.allow(url, 255 - (1 << origin), true);
            checks.same("ALL and the others", outcomeOf(desk, origin, url, 2), -3);
            checks.same("ALL and the others, OMIT", outcomeOf(desk, origin, url, 0), 1);
            desk.allow(url, 128 | 1 << origin, true);
            checks.same("not only by ALL", outcomeOf(desk, origin, url, 2), 1);
            desk.allow(url, 127 - (1 << origin), true);
            checks.same("all the others, not ALL", outcomeOf(desk, origin, url, 0), -3);
        }
    }

    private static void credentials(Checks checks) {
        FetchDesk desk = new FetchDesk();
        desk.allow(8, 255, false);
        checks.same("not, and SENT", Checks.outcome(desk, 0, 8, 0, 0, 1, 2, 0), -3);
        checks.same("not, and not SENT", Checks.outcome(desk, 0, 8, 0, 0, 1, 1, 0), 1);
        desk.allow(8, 255, true);
        checks.same("allowed, and SENT", Checks.outcome(desk, 0, 8, 0, 0, 1, 2, 0), 1);
        checks.same("allowed, and not SENT", Checks.outcome(desk, 0, 8, 0, 0, 1, 0, 0), 1);
        desk.allow(8, 0, true);
        checks.same("CREDENTIALS for nobody", Checks.outcome(desk, 0, 8, 0, 0, 1, 0, 0), -3);
    }

    private static void refusedChangesNothing(Checks checks) {
        int[][] refused = {{-1, 0}, {48, 0}, {8, -1}, {8, 256}, {-1, -1}, {48, 256}};
        FetchDesk desk = new FetchDesk();
        desk.allow(8, 1, true);
        for (int[] a : refused) {
            String what = "allow(" + a[0] + ", " + a[1] + ", false)";
            checks.refuses(what, Checks.ILLEGAL, () -> desk.allow(a[0], a[1], false));
            checks.same(what + " left what is ALLOWED", Checks.outcome(desk, 0, 8, 0, 0, 1, 2, 0), 1);
            checks.same(what + " left who is not", Checks.outcome(desk, 2, 8, 0, 0, 1, 0, 0), -3);
        }
        checks.same("what it did", desk.allow(8, 0, false), 1);
    }
}
