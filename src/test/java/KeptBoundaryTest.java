/** Promise 9: the boundary cases. */
public final class KeptBoundaryTest {
    private static final int[] WRONG_WHAT = {Integer.MIN_VALUE, -6, -1, 6, 7, Integer.MAX_VALUE};

    public static void main(String[] args) {
        Checks checks = new Checks("kept, boundaries");
        checks.sentence("the i-th REMEMBERED one (0 the one that came first)", KeptBoundaryTest::firstAndLast);
        checks.sentence("1 with CREDENTIALS, else 0", KeptBoundaryTest::credentials);
        checks.sentence("METHODS, HEADERS", KeptBoundaryTest::methodsAndHeaders);
        checks.sentence("1 if TIME is below its end, else 0", KeptBoundaryTest::belowItsEnd);
        checks.sentence("IllegalArgumentException for another what", KeptBoundaryTest::anotherWhat);
        checks.sentence("IndexOutOfBoundsException if there is none such", KeptBoundaryTest::noneSuch);
        checks.end();
    }

    private static void firstAndLast(Checks checks) {
        FetchDesk desk = Desks.open(5);
        desk.fetch(5, 0, 2, 0, 1, 0, 0);
        desk.fetch(0, 47, 2, 0, 1, 0, 0);
        checks.kept("the first", desk, 0, 5, 0, 0, 15, 15, 1);
        checks.kept("the last", desk, 1, 0, 47, 0, 15, 15, 1);
        for (int i = 2; i < 6; i++) {
            desk.fetch(0, 8 + i, 2, 0, 1, 0, 0);
        }
        checks.kept("the first of 6", desk, 0, 5, 0, 0, 15, 15, 1);
        checks.kept("the last of 6", desk, 5, 0, 13, 0, 15, 15, 1);
        desk.fetch(0, 14, 2, 0, 1, 0, 0);
        checks.kept("the first of 6 after one went", desk, 0, 0, 47, 0, 15, 15, 1);
        checks.kept("the last of 6 after one went", desk, 5, 0, 14, 0, 15, 15, 1);
    }

    private static void credentials(Checks checks) {
        FetchDesk desk = Desks.open(5);
        for (int credentials = 0; credentials < 3; credentials++) {
            desk.fetch(0, 8 + credentials, 2, 0, 1, credentials, 0);
            checks.same("with " + credentials, desk.kept(credentials, 2), credentials == 2 ? 1 : 0);
        }
    }

    private static void methodsAndHeaders(Checks checks) {
        FetchDesk desk = Desks.open(5);
        desk.asked(8, true, 0, 1, 5);
        desk.fetch(0, 8, 0, 1, 1, 0, 0);
        checks.kept("the RESOURCE's, not the REQUEST's", desk, 0, 0, 8, 0, 0, 1, 1);
        desk.asked(9, true, 15, 15, 5);
        desk.fetch(0, 9, 2, 0, 1, 0, 0);
        checks.kept("all of them", desk, 1, 0, 9, 0, 15, 15, 1);
        desk.asked(10, true, 4, 0, 5);
        desk.fetch(0, 10, 2, 0, 1, 0, 0);
        checks.kept("no HEADERS", desk, 2, 0, 10, 0, 4, 0, 1);
        desk.asked(10, true, 15, 15, 5);
        checks.kept("as it was when it was ASKED", desk, 2, 0, 10, 0, 4, 0, 1);
    }

    private static void belowItsEnd(Checks checks) {
        FetchDesk desk = Desks.open(0);
        desk.tick(2);
        Desks.remember(desk, 8, 5);
        Desks.remember(desk, 9, 100);
        checks.same("at once", desk.kept(0, 5), 1);
        desk.tick(4);
        checks.sameDouble("just before 7", desk.tick(Math.nextDown(7.0) - 6), Math.nextDown(7.0));
        checks.same("just before its end", desk.kept(0, 5), 1);
        checks.sameDouble("7", desk.tick(7 - Math.nextDown(7.0)), 7);
        checks.same("at its end", desk.kept(0, 5), 0);
        checks.same("the other one", desk.kept(1, 5), 1);
        checks.sameDouble("12", desk.tick(5), 12);
        checks.same("the other one at its end", desk.kept(1, 5), 0);
        desk.tick(1000);
        checks.kept("long after its end", desk, 0, 0, 8, 0, 15, 15, 0);
    }

    private static void anotherWhat(Checks checks) {
        FetchDesk desk = Desks.open(0);
        Desks.remember(desk, 8, 5);
        checks.refusesEach("one that is there, what", WRONG_WHAT, what -> desk.kept(0, what));
        checks.kept("0 to 5", desk, 0, 0, 8, 0, 15, 15, 1);
    }

    private static void refusesEveryWhat(Checks checks, String where, FetchDesk desk, int i) {
        for (int what = 0; what < 6; what++) {
            int w = what;
            checks.refuses(where + ": kept(" + i + ", " + w + ")", Checks.NO_SUCH, () -> desk.kept(i, w));
        }
    }

    private static void noneSuch(Checks checks) {
        for (int there = 0; there <= 6; there++) {
            String where = "of " + there;
            FetchDesk desk = Desks.open(0);
            for (int i = 0; i < there; i++) {
                Desks.remember(desk, 8 + i, 5);
            }
            for (int i = 0; i < there; i++) {
                checks.kept(where, desk, i, 0, 8 + i, 0, 15, 15, 1);
            }
            for (int i : new int[] {Integer.MIN_VALUE, -1, there, there + 1, Integer.MAX_VALUE}) {
                refusesEveryWhat(checks, where, desk, i);
            }
        }
        FetchDesk forgetting = Desks.open(5);
        forgetting.fetch(0, 8, 2, 0, 1, 0, 0);
        forgetting.tick(5);
        Desks.remember(forgetting, 8, 0);
        refusesEveryWhat(checks, "after the only one was forgotten", forgetting, 0);
    }
}
