import java.util.Arrays;

/** Promise 12: the boundary cases. */
public final class OrderBoundaryTest {
    public static void main(String[] args) {
        Checks checks = new Checks("order and limits, boundaries");
        checks.sentence("kept: a wrong what is seen before an i that is not there", OrderBoundaryTest::wrongWhatFirst);
        checks.sentence("with IllegalArgumentException it is no REQUEST: what is told stays", OrderBoundaryTest::toldStays);
        checks.sentence("all counts stay", OrderBoundaryTest::countsStay);
        checks.sentence("it is no REQUEST: what is REMEMBERED stays", OrderBoundaryTest::rememberedStays);
        checks.sentence("The ROUND in which there is an ERROR is one of the ROUNDS", OrderBoundaryTest::roundOfTheError);
        checks.end();
    }

    private static void wrongWhatFirst(Checks checks) {
        int[] wrongWhat = {Integer.MIN_VALUE, -1, 6, Integer.MAX_VALUE};
        FetchDesk desk = Desks.open(0);
        for (int there = 0; there <= 6; there += 3) {
            for (int i : new int[] {Integer.MIN_VALUE, -1, there, 6, Integer.MAX_VALUE}) {
                checks.refusesEach("kept(" + i + ", ..) of " + there, wrongWhat, what -> desk.kept(i, what));
                checks.refuses("kept(" + i + ", 0) of " + there, Checks.NO_SUCH, () -> desk.kept(i, 0));
                checks.refuses("kept(" + i + ", 5) of " + there, Checks.NO_SUCH, () -> desk.kept(i, 5));
            }
            for (int k = 0; k < 3 && there < 6; k++) {
                Desks.remember(desk, 8 + there + k, 5);
            }
        }
    }

    /** One wrong number at each place, on both sides of its range, and what NO CORS can not have. */
    private static int[][] refused() {
        int[] greatest = {5, 47, 3, 15, 2, 2, 2};
        int[][] all = new int[17][];
        for (int place = 0; place < 7; place++) {
            all[2 * place] = new int[] {0, 8, 2, 1, 1, 2, 0};
            all[2 * place][place] = -1;
            all[2 * place + 1] = new int[] {0, 8, 2, 1, 1, 2, 0};
            all[2 * place + 1][place] = greatest[place] + 1;
        }
        all[14] = new int[] {0, 8, 2, 0, 2, 0, 0};
        all[15] = new int[] {0, 8, 0, 1, 2, 0, 0};
        all[16] = new int[] {0, 0, 3, 15, 2, 0, 0};
        return all;
    }

    private static void refuse(Checks checks, FetchDesk desk) {
        for (int[] a : refused()) {
            checks.refuses("fetch " + Arrays.toString(a), Checks.ILLEGAL,
                    () -> desk.fetch(a[0], a[1], a[2], a[3], a[4], a[5], a[6]));
        }
    }

    private static void toldStays(Checks checks) {
        FetchDesk desk = Desks.open(0);
        refuse(checks, desk);
        checks.told("before one", desk, 0, 0, 0, 0, 0, 0, 0, 0, 0, 0);
        desk.serve(47, 599, -5, -1);
        desk.headers(47, 14, 7);
        desk.serve(40, 307, 0, 47);
        desk.fetch(4, 40, 1, 0, 1, 2, 0);
        refuse(checks, desk);
        checks.told("after a RESPONSE", desk, 0, 2, 47, 4, 1, 1, 599, -5, 6, 1);
        desk.allow(47, 0, false);
        checks.same("an ERROR", Checks.outcome(desk, 4, 40, 3, 0, 1, 2, 0), -2);
        refuse(checks, desk);
        checks.told("after an ERROR", desk, 2, 2, 47, 4, 3, 1, 0, 0, 0, 0);
    }

    private static void countsStay(Checks checks) {
        FetchDesk desk = Desks.open(5);
        desk.fetch(0, 8, 2, 1, 1, 2, 0);
        desk.fetch(0, 8, 2, 1, 1, 2, 0);
        checks.same("an ERROR", Checks.outcome(desk, 0, 8, 2, 1, 0, 2, 0), -1);
        refuse(checks, desk);
        checks.counts("after refusals", desk, 3, 1, 2, 1, 1, 1);
        for (int url = 0; url < 48; url++) {
            checks.same("count(10 + " + url + ")", desk.count(10 + url), url == 8 ? 2 : 0);
            checks.same("count(60 + " + url + ")", desk.count(60 + url), url == 8 ? 2 : 0);
        }
    }

    private static void rememberedStays(Checks checks) {
        FetchDesk desk = Desks.open(5);
        desk.fetch(0, 8, 2, 1, 1, 2, 0);
        desk.tick(5);
        desk.fetch(0, 9, 2, 1, 1, 2, 0);
        refuse(checks, desk);
        checks.kept("the ended one", desk, 0, 0, 8, 1, 15, 15, 0);
        checks.kept("the other one", desk, 1, 0, 9, 1, 15, 15, 1);
        checks.sameDouble("what is left of it", desk.left(1), 5);
        checks.sameDouble("the time", desk.tick(1), 6);
    }

    private static void roundOfTheError(Checks checks) {
        for (int rounds = 1; rounds <= 5; rounds++) {
            FetchDesk desk = new FetchDesk();
            int first = Desks.lead(desk, rounds, 8);
            checks.same("ERROR 1", Checks.outcome(desk, 0, first, 0, 0, 0, 0, 0), -1);
            checks.same("ROUNDS with ERROR 1", desk.told(1), rounds);
            checks.same("ERROR 2", Checks.outcome(desk, 0, first, 2, 0, 1, 0, 0), -2);
            checks.same("ROUNDS with ERROR 2", desk.told(1), rounds);
            checks.same("ERROR 3", Checks.outcome(desk, 0, first, 0, 0, 1, 0, 0), -3);
            checks.same("ROUNDS with ERROR 3", desk.told(1), rounds);
        }
        FetchDesk desk = new FetchDesk();
        desk.serve(0, 301, 0, 0);
        checks.same("ERROR 4", Checks.outcome(desk, 0, 0, 0, 0, 0, 0, 1), -4);
        checks.same("ROUNDS with ERROR 4", desk.told(1), 1);
        checks.same("ERROR 5", Checks.outcome(desk, 0, 0, 0, 0, 0, 0, 0), -5);
        checks.same("ROUNDS with ERROR 5", desk.told(1), 5);
    }
}
