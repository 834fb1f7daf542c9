/** Promise 8: the boundary cases. */
public final class ToldBoundaryTest {
    public static void main(String[] args) {
        Checks checks = new Checks("told, boundaries");
        checks.sentence("0 before one", ToldBoundaryTest::zeroBefore);
        checks.sentence("the number of its ERROR (0 without)", ToldBoundaryTest::numberOfTheError);
        checks.sentence("all 0 for an ERROR", ToldBoundaryTest::allZeroForAnError);
        checks.sentence("Of the latest REQUEST", ToldBoundaryTest::latest);
        checks.sentence("the last URL, its ORIGIN at the end, its METHOD at the end", ToldBoundaryTest::atTheEnd);
        checks.sentence("also if it did not come to the RESOURCE", ToldBoundaryTest::sentOrNot);
        checks.sentence("IllegalArgumentException for others", ToldBoundaryTest::others);
        checks.end();
    }

    private static void zeroBefore(Checks checks) {
        FetchDesk desk = new FetchDesk();
        checks.told("new", desk, 0, 0, 0, 0, 0, 0, 0, 0, 0, 0);
        desk.serve(47, 404, 9, 5);
        desk.headers(47, 15, 15);
        desk.allow(47, 255, true);
        desk.asked(47, true, 15, 15, 5);
        desk.tick(1);
        checks.refuses("a refused fetch", Checks.ILLEGAL, () -> desk.fetch(5, 47, 3, 15, 3, 2, 2));
        checks.refuses("what NO CORS can not have", Checks.ILLEGAL, () -> desk.fetch(5, 47, 3, 0, 2, 2, 2));
        checks.told("after all but a REQUEST", desk, 0, 0, 0, 0, 0, 0, 0, 0, 0, 0);
        desk.fetch(5, 47, 3, 15, 1, 2, 2);
        checks.told("after one", desk, 0, 1, 47, 5, 3, 1, 404, 9, 15, 0);
    }

    /** The desk's latest REQUEST ends in this ERROR, that before it in a RESPONSE of which nothing is 0. */
    private static FetchDesk after(int error) {
        FetchDesk desk = new FetchDesk();
        desk.serve(8, 404, 9, -1);
        desk.headers(8, 15, 15);
        desk.allow(8, 1, true);
        desk.serve(0, 308, 9, 0);
        desk.headers(0, 15, 15);
        desk.fetch(0, 8, 1, 0, 1, 2, 0);
        int[][] requests = {{8, 1, 0, 0}, {8, 3, 1, 0}, {16, 1, 1, 0}, {0, 1, 1, 1}, {0, 1, 1, 0}};
        int[] a = requests[error - 1];
        Checks.outcome(desk, 0, a[0], a[1], 0, a[2], 2, a[3]);
        return desk;
    }

    private static void numberOfTheError(Checks checks) {
        for (int error = 1; error <= 5; error++) {
            FetchDesk desk = after(error);
            checks.same("the number", desk.told(0), error);
            checks.refuses("no REQUEST", Checks.ILLEGAL, () -> desk.fetch(0, 8, 1, 0, 1, 2, 3));
            checks.same("it stays", desk.told(0), error);
            desk.fetch(0, 8, 1, 0, 1, 2, 0);
            checks.same("0 without", desk.told(0), 0);
        }
    }

    private static void allZeroForAnError(Checks checks) {
        for (int error = 1; error <= 5; error++) {
            FetchDesk desk = after(error);
            checks.same("the ERROR", desk.told(0), error);
            for (int what = 6; what < 10; what++) {
                checks.same("told(" + what + ") for ERROR " + error, desk.told(what), 0);
            }
        }
        FetchDesk desk = new FetchDesk();
        desk.serve(0, 307, 9, -1);
        desk.fetch(0, 0, 0, 0, 2, 0, 0);
        desk.fetch(0, 8, 0, 0, 2, 0, 0);
        checks.same("sort 2 before", desk.told(9), 2);
        checks.same("an ERROR", Checks.outcome(desk, 0, 8, 0, 0, 0, 0, 0), -1);
        checks.same("sort 0", desk.told(9), 0);
    }

    private static void latest(Checks checks) {
        FetchDesk desk = after(1);
        checks.told("the ERROR", desk, 1, 1, 8, 0, 1, 1, 0, 0, 0, 0);
        desk.fetch(0, 8, 1, 0, 1, 2, 0);
        checks.told("the RESPONSE", desk, 0, 1, 8, 0, 1, 1, 404, 9, 15, 1);
        desk.tick(1000);
        desk.serve(8, 200, 0, -1);
        desk.headers(8, 0, 0);
        desk.allow(8, 0, false);
        desk.asked(8, false, 0, 0, 0);
        checks.told("nothing but a REQUEST changes it", desk, 0, 1, 8, 0, 1, 1, 404, 9, 15, 1);
        desk.fetch(0, 1, 0, 0, 0, 0, 0);
        checks.told("nothing is left of those before", desk, 0, 1, 1, 0, 0, 0, 200, 0, 0, 0);
    }

    private static void atTheEnd(Checks checks) {
        FetchDesk desk = Desks.open(0);
        desk.serve(47, 303, 0, 40);
        desk.serve(40, 307, 0, 0);
        desk.fetch(4, 47, 3, 15, 1, 0, 0);
        checks.told("after 3 ROUNDS", desk, 0, 3, 0, 6, 0, 0, 200, 0, 0, 1);
        desk.fetch(5, 47, 3, 15, 1, 1, 0);
        checks.told("ORIGIN 5 stays known", desk, 0, 3, 0, 5, 0, 0, 200, 0, 0, 1);
        desk.fetch(5, 47, 3, 15, 1, 1, 2);
        checks.told("MANUAL", desk, 0, 1, 47, 5, 3, 1, 0, 0, 0, 3);
    }

    private static void sentOrNot(Checks checks) {
        int[] dueFar = {0, 0, 1};
        for (int credentials = 0; credentials < 3; credentials++) {
            FetchDesk desk = new FetchDesk();
            desk.serve(0, 307, 0, 8);
            checks.same("ERROR 1", Checks.outcome(desk, 0, 8, 0, 0, 0, credentials, 0), -1);
            checks.same("ERROR 1 with " + credentials, desk.told(5), dueFar[credentials]);
            checks.same("ERROR 2", Checks.outcome(desk, 0, 8, 2, 0, 1, credentials, 0), -2);
            checks.same("ERROR 2 with " + credentials, desk.told(5), dueFar[credentials]);
            checks.same("it did not come to the RESOURCE", desk.count(68), 0);
            checks.same("ERROR 3", Checks.outcome(desk, 0, 8, 0, 0, 1, credentials, 0), -3);
            checks.same("ERROR 3 with " + credentials, desk.told(5), dueFar[credentials]);
            checks.same("ERROR 1, led there", Checks.outcome(desk, 0, 0, 0, 0, 0, credentials, 0), -1);
            checks.same("the last ROUND with " + credentials, desk.told(5), dueFar[credentials]);
            checks.same("ERROR 4", Checks.outcome(desk, 0, 0, 0, 0, 0, credentials, 1), -4);
            checks.same("ERROR 4 with " + credentials, desk.told(5), credentials == 0 ? 0 : 1);
        }
    }

    private static void others(Checks checks) {
        int[] wrong = {Integer.MIN_VALUE, -10, -1, 10, 11, 16, Integer.MAX_VALUE};
        FetchDesk desk = new FetchDesk();
        checks.refusesEach("before one", wrong, desk::told);
        desk.fetch(0, 0, 0, 0, 0, 0, 0);
        checks.refusesEach("after one", wrong, desk::told);
        checks.told("all others are told", desk, 0, 1, 0, 0, 0, 0, 200, 0, 0, 0);
    }
}
