/** Promise 5: the boundary cases. */
public final class AskedBoundaryTest {
    private static final double[] WRONG_AGES = {Double.NaN, Double.NEGATIVE_INFINITY, -100, -1, -Double.MIN_VALUE,
        Math.nextUp(100.0), 101, Double.MAX_VALUE, Double.POSITIVE_INFINITY};

    public static void main(String[] args) {
        Checks checks = new Checks("asked, boundaries");
        checks.sentence("URLS 0 to 47", AskedBoundaryTest::urls);
        checks.sentence("it is OK or not", AskedBoundaryTest::okOrNot);
        checks.sentence("METHODS (0 to 15)", AskedBoundaryTest::methods);
        checks.sentence("HEADERS (0 to 15 each)", AskedBoundaryTest::headers);
        checks.sentence("AGE (0 to 100)", AskedBoundaryTest::ages);
        checks.sentence("AGE (0 to 100), of neither", AskedBoundaryTest::wrongAges);
        checks.sentence("IllegalArgumentException likewise", AskedBoundaryTest::refusedChangesNothing);
        checks.end();
    }

    private static void urls(Checks checks) {
        FetchDesk desk = new FetchDesk();
        checks.refusesEach("URL", Desks.WRONG_URLS, url -> desk.asked(url, true, 15, 15, 1));
        int[] ends = {0, 1, 46, 47};
        for (int url : ends) {
            FetchDesk one = new FetchDesk();
            one.asked(url, true, 15, 15, 1);
            for (int other : ends) {
                one.allow(other, 128, false);
                checks.same("set for " + url + ", PUT at " + other, Checks.outcome(one, 2, other, 2, 0, 1, 0, 0),
                        other == url ? 1 : -2);
            }
        }
    }

    private static void okOrNot(Checks checks) {
        FetchDesk desk = Desks.open(0);
        desk.asked(8, false, 15, 15, 100);
        checks.same("not OK, with all it could let", Checks.outcome(desk, 0, 8, 2, 1, 1, 0, 0), -2);
        desk.asked(8, true, 4, 1, 0);
        checks.same("OK, with no more than is wanted", Checks.outcome(desk, 0, 8, 2, 1, 1, 0, 0), 1);
        desk.asked(8, true, 0, 1, 0);
        checks.same("OK, without the METHOD", Checks.outcome(desk, 0, 8, 2, 1, 1, 0, 0), -2);
        desk.asked(8, true, 4, 0, 0);
        checks.same("OK, without the HEADER", Checks.outcome(desk, 0, 8, 2, 1, 1, 0, 0), -2);
    }

    private static void methods(Checks checks) {
        FetchDesk desk = Desks.open(0);
        for (int methods = 0; methods < 16; methods++) {
            desk.asked(8, true, methods, 1, 1);
            int put = (methods & 4) != 0 ? 1 : -2;
            int delete = (methods & 8) != 0 ? 1 : -2;
            checks.same("PUT with " + methods, Checks.outcome(desk, 0, 8, 2, 0, 1, 0, 0), put);
            checks.same("DELETE with " + methods, Checks.outcome(desk, 2, 8, 3, 0, 1, 0, 0), delete);
            checks.same("GET with " + methods, Checks.outcome(desk, 3, 8, 0, 1, 1, 0, 0), 1);
            checks.same("what is REMEMBERED", desk.kept(desk.count(5) - 1, 3), methods);
            desk.tick(2);
        }
        checks.refusesEach("METHODS", Desks.WRONG_FOUR_BITS, methods -> desk.asked(8, true, methods, 0, 1));
    }

    private static void headers(Checks checks) {
        FetchDesk desk = Desks.open(0);
        for (int headers = 0; headers < 16; headers++) {
            desk.asked(8, true, 4, headers, 1);
            checks.same("none of " + headers, Checks.outcome(desk, 0, 8, 2, 0, 1, 0, 0), 1);
            checks.same("what is REMEMBERED", desk.kept(desk.count(5) - 1, 4), headers);
            checks.same("all of " + headers, Checks.outcome(desk, 2, 8, 2, headers, 1, 0, 0), 1);
            if (headers < 15) {
                checks.same("one more than " + headers, Checks.outcome(desk, 3, 8, 2, headers | (headers + 1), 1, 0, 0), -2);
            }
            desk.tick(2);
        }
        checks.refusesEach("HEADERS", Desks.WRONG_FOUR_BITS, headers -> desk.asked(8, true, 0, headers, 1));
    }

    private static void ages(Checks checks) {
        double[] ages = {0, -0.0, Double.MIN_VALUE, 1, 99, Math.nextDown(100.0), 100};
        for (double age : ages) {
            FetchDesk desk = Desks.open(0);
            Desks.remember(desk, 8, age);
            checks.same("how many are there with AGE " + age, desk.count(5), age > 0 ? 1 : 0);
            if (age > 0) {
                checks.sameDouble("left with AGE " + age, desk.left(0), age < 10 ? age : 10);
            }
        }
    }

    private static void wrongAges(Checks checks) {
        FetchDesk desk = Desks.open(3);
        checks.refusesEach("AGE", WRONG_AGES, age -> desk.asked(8, true, 15, 15, age));
        checks.refusesEach("AGE when not OK", WRONG_AGES, age -> desk.asked(8, false, 0, 0, age));
        desk.fetch(0, 8, 2, 0, 1, 0, 0);
        checks.sameDouble("the AGE of before", desk.left(0), 3);
    }

    private static void refusedChangesNothing(Checks checks) {
        FetchDesk desk = Desks.open(0);
        desk.asked(8, true, 8, 2, 3);
        int[][] refused = {{-1, 0, 0}, {48, 0, 0}, {8, -1, 0}, {8, 16, 0}, {8, 0, -1}, {8, 0, 16}, {48, 16, 16}};
        for (int[] a : refused) {
            String what = "asked(" + a[0] + ", false, " + a[1] + ", " + a[2] + ", 0)";
            checks.refuses(what, Checks.ILLEGAL, () -> desk.asked(a[0], false, a[1], a[2], 0));
        }
        checks.refuses("a wrong AGE", Checks.ILLEGAL, () -> desk.asked(8, false, 0, 0, 101));
        checks.same("still OK", Checks.outcome(desk, 0, 8, 3, 2, 1, 0, 0), 1);
        checks.kept("METHODS and HEADERS of before", desk, 0, 0, 8, 0, 8, 2, 1);
        checks.sameDouble("the AGE of before", desk.left(0), 3);
    }
}
