import java.util.Arrays;

/** Promise 7, what may stand in a call of fetch and what it answers: the boundary cases. */
public final class FetchBoundaryTest {
    private static final String[] NAMES = {"ORIGIN", "URL", "METHOD", "HEADERS", "MODE", "CREDENTIALS", "REDIRECTS"};
    private static final int[] GREATEST = {5, 47, 3, 15, 2, 2, 2};

    public static void main(String[] args) {
        Checks checks = new Checks("fetch, boundaries");
        for (int i = 0; i < NAMES.length; i++) {
            int place = i;
            checks.sentence(NAMES[i] + " is 0 to " + GREATEST[i], c -> range(c, place));
        }
        checks.sentence("NO CORS is of SIMPLE METHODS without HEADERS alone", FetchBoundaryTest::noCors);
        checks.sentence("THE RESPONSE is told of; its sort", FetchBoundaryTest::sorts);
        checks.sentence("UnsupportedOperationException for an ERROR", FetchBoundaryTest::errors);
        checks.sentence("IllegalArgumentException if a number is not as said", FetchBoundaryTest::refusedBeforeAnError);
        checks.end();
    }

    private static int outcome(FetchDesk desk, int[] a) {
        return Checks.outcome(desk, a[0], a[1], a[2], a[3], a[4], a[5], a[6]);
    }

    private static void refuses(Checks checks, FetchDesk desk, int[] a) {
        String what = "fetch " + Arrays.toString(a);
        checks.refuses(what, Checks.ILLEGAL, () -> desk.fetch(a[0], a[1], a[2], a[3], a[4], a[5], a[6]));
    }

    /** At both ends of its range, and just outside of them, with the other numbers at their least. */
    private static void range(Checks checks, int place) {
        int[] a = new int[7];
        FetchDesk desk = new FetchDesk();
        desk.allow(0, 255, true);
        desk.allow(47, 255, true);
        for (int number : new int[] {Integer.MIN_VALUE, -1, GREATEST[place] + 1, Integer.MAX_VALUE}) {
            a[place] = number;
            refuses(checks, desk, a);
        }
        checks.counts("no REQUEST was made", desk, 0, 0, 0, 0, 0, 0);
        for (int number : new int[] {0, 1, GREATEST[place] - 1, GREATEST[place]}) {
            a[place] = number;
            boolean far = a[1] / 8 != a[0];
            checks.same(NAMES[place] + " " + number, outcome(desk, a), far ? -1 : 0);
        }
        checks.same("REQUESTS were made", desk.count(0), 4);
    }

    private static void noCors(Checks checks) {
        for (int method = 0; method < 4; method++) {
            for (int headers = 0; headers < 16; headers++) {
                FetchDesk desk = new FetchDesk();
                boolean good = method < 2 && headers == 0;
                int[] near = {0, 7, method, headers, 2, 0, 0};
                int[] far = {0, 8, method, headers, 2, 0, 0};
                if (good) {
                    checks.same("near, METHOD " + method, outcome(desk, near), 0);
                    checks.same("far, METHOD " + method, outcome(desk, far), 2);
                } else {
                    refuses(checks, desk, near);
                    refuses(checks, desk, far);
                }
                checks.counts("METHOD " + method + ", HEADERS " + headers, desk, good ? 2 : 0, 0, good ? 2 : 0, 0, 0, 0);
                near[4] = 1;
                checks.same("CORS can have them", outcome(desk, near), 0);
                near[4] = 0;
                checks.same("SAME ORIGIN can have them", outcome(desk, near), 0);
            }
        }
    }

    private static void sorts(Checks checks) {
        FetchDesk desk = Desks.open(0);
        desk.serve(9, 301, 0, 10);
        int[][] requests = {{1, 8, 0, 0, 1, 0, 0}, {0, 8, 0, 0, 1, 0, 0}, {0, 8, 0, 0, 2, 0, 0}, {0, 9, 0, 0, 1, 0, 2}};
        for (int sort = 0; sort < 4; sort++) {
            checks.same("the sort", outcome(desk, requests[sort]), sort);
            checks.same("told(9)", desk.told(9), sort);
            checks.same("told(0)", desk.told(0), 0);
        }
    }

    private static void errors(Checks checks) {
        FetchDesk desk = new FetchDesk();
        desk.serve(0, 307, 0, 0);
        int[][] requests = {{0, 8, 0, 0, 0, 0, 0}, {0, 8, 2, 0, 1, 0, 0}, {0, 8, 0, 0, 1, 0, 0}, {0, 0, 0, 0, 1, 0, 1},
            {0, 0, 0, 0, 1, 0, 0}};
        for (int error = 1; error <= 5; error++) {
            int[] a = requests[error - 1];
            checks.refuses("ERROR " + error, Checks.ERROR, () -> desk.fetch(a[0], a[1], a[2], a[3], a[4], a[5], a[6]));
            checks.same("its number", desk.told(0), error);
            checks.same("it is counted", desk.count(1), error);
            checks.same("the REQUEST is counted", desk.count(0), error);
        }
    }

    /** What would be an ERROR, and has a wrong number too, is no REQUEST. */
    private static void refusedBeforeAnError(Checks checks) {
        FetchDesk desk = new FetchDesk();
        refuses(checks, desk, new int[] {0, 8, 0, 0, 0, 0, 3});
        refuses(checks, desk, new int[] {0, 8, 2, 16, 1, 0, 0});
        refuses(checks, desk, new int[] {0, 8, 3, 0, 2, 0, 1});
        refuses(checks, desk, new int[] {6, 48, 4, 16, 3, 3, 3});
        refuses(checks, desk, new int[] {-1, -1, -1, -1, -1, -1, -1});
        checks.counts("no REQUEST was made", desk, 0, 0, 0, 0, 0, 0);
    }
}
