/** Promise 3: the boundary cases. */
public final class HeadersBoundaryTest {
    public static void main(String[] args) {
        Checks checks = new Checks("headers, boundaries");
        checks.sentence("URLS 0 to 47", HeadersBoundaryTest::urls);
        checks.sentence("It sends these HEADERS (0 to 15)", HeadersBoundaryTest::given);
        checks.sentence("with these EXPOSED (0 to 15 each)", HeadersBoundaryTest::exposed);
        checks.sentence("GIVEN HEADERS (bits), of these EXPOSED ones", HeadersBoundaryTest::exposedOfGiven);
        checks.sentence("IllegalArgumentException likewise", HeadersBoundaryTest::refusedChangesNothing);
        checks.end();
    }

    private static void urls(Checks checks) {
        FetchDesk desk = new FetchDesk();
        checks.refusesEach("URL", Desks.WRONG_URLS, url -> desk.headers(url, 15, 15));
        int[] ends = {0, 1, 46, 47};
        for (int url : ends) {
            FetchDesk one = new FetchDesk();
            one.headers(url, 15, 15);
            for (int other : ends) {
                one.fetch(other / 8, other, 0, 0, 0, 0, 0);
                checks.same("set for " + url + ", HEADERS of " + other, one.told(8), other == url ? 15 : 0);
            }
        }
    }

    private static void given(Checks checks) {
        FetchDesk desk = new FetchDesk();
        for (int given : new int[] {0, 1, 8, 14, 15, 0}) {
            desk.headers(8, given, 0);
            desk.fetch(1, 8, 0, 0, 0, 0, 0);
            checks.same("near, GIVEN " + given, desk.told(8), given);
        }
        checks.refusesEach("GIVEN", Desks.WRONG_FOUR_BITS, given -> desk.headers(8, given, 0));
    }

    private static void exposed(Checks checks) {
        FetchDesk desk = new FetchDesk();
        desk.allow(8, 1, false);
        for (int exposed : new int[] {0, 1, 8, 14, 15, 0}) {
            desk.headers(8, 15, exposed);
            desk.fetch(0, 8, 0, 0, 1, 0, 0);
            checks.same("far, EXPOSED " + exposed, desk.told(8), exposed);
            desk.fetch(1, 8, 0, 0, 1, 0, 0);
            checks.same("near, EXPOSED " + exposed, desk.told(8), 15);
        }
        checks.refusesEach("EXPOSED", Desks.WRONG_FOUR_BITS, exposed -> desk.headers(8, 0, exposed));
    }

    private static void exposedOfGiven(Checks checks) {
        FetchDesk desk = new FetchDesk();
        desk.allow(8, 1, false);
        int[][] cases = {{0, 15, 0}, {1, 14, 0}, {8, 15, 8}, {7, 12, 4}, {15, 8, 8}};
        for (int[] a : cases) {
            desk.headers(8, a[0], a[1]);
            desk.fetch(0, 8, 0, 0, 1, 0, 0);
            checks.same("far, GIVEN " + a[0] + ", EXPOSED " + a[1], desk.told(8), a[2]);
            desk.fetch(1, 8, 0, 0, 1, 0, 0);
            checks.same("near, GIVEN " + a[0] + ", EXPOSED " + a[1], desk.told(8), a[0]);
        }
    }

    private static void refusedChangesNothing(Checks checks) {
        int[][] refused = {{-1, 0, 0}, {48, 0, 0}, {8, -1, 0}, {8, 16, 0}, {8, 0, -1}, {8, 0, 16}, {-1, -1, -1},
            {48, 16, 16}};
        FetchDesk desk = new FetchDesk();
        desk.allow(8, 1, false);
        desk.headers(8, 13, 6);
        for (int[] a : refused) {
            String what = "headers(" + a[0] + ", " + a[1] + ", " + a[2] + ")";
            checks.refuses(what, Checks.ILLEGAL, () -> desk.headers(a[0], a[1], a[2]));
            desk.fetch(1, 8, 0, 0, 0, 0, 0);
            checks.same(what + " left what is GIVEN", desk.told(8), 13);
            desk.fetch(0, 8, 0, 0, 1, 0, 0);
            checks.same(what + " left what is EXPOSED", desk.told(8), 4);
        }
    }
}
