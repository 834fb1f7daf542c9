/** Promise 10: the boundary cases. */
public final class LeftBoundaryTest {
    public static void main(String[] args) {
        Checks checks = new Checks("left, boundaries");
        checks.sentence("How many seconds it is still REMEMBERED", LeftBoundaryTest::seconds);
        checks.sentence("(0 if it is not any more)", LeftBoundaryTest::notAnyMore);
        checks.sentence("IndexOutOfBoundsException if there is none such", LeftBoundaryTest::noneSuch);
        checks.end();
    }

    private static void seconds(Checks checks) {
        FetchDesk desk = Desks.open(0);
        Desks.remember(desk, 8, 2.5);
        desk.tick(1);
        Desks.remember(desk, 9, 100);
        checks.sameDouble("the first", desk.left(0), 1.5);
        checks.sameDouble("the second", desk.left(1), 10);
        desk.tick(0.25);
        checks.sameDouble("the first then", desk.left(0), 1.25);
        checks.sameDouble("the second then", desk.left(1), 9.75);
        for (int url = 10; url < 14; url++) {
            Desks.remember(desk, url, url - 9);
        }
        checks.sameDouble("the last of 6", desk.left(5), 4);
        Desks.remember(desk, 14, 5);
        checks.sameDouble("the first after one went", desk.left(0), 1.25);
        checks.sameDouble("the second after one went", desk.left(1), 9.75);
        checks.sameDouble("the last after one went", desk.left(5), 5);
    }

    private static void notAnyMore(Checks checks) {
        FetchDesk desk = Desks.open(0);
        Desks.remember(desk, 8, 5);
        desk.tick(Math.nextDown(5.0));
        checks.sameDouble("just before its end", desk.left(0), 5 - Math.nextDown(5.0));
        desk.tick(5 - Math.nextDown(5.0));
        checks.sameDouble("at its end", desk.left(0), 0);
        desk.tick(5 * Math.ulp(5.0));
        checks.sameDouble("just behind its end", desk.left(0), 0);
        desk.tick(1000);
        checks.sameDouble("long behind its end", desk.left(0), 0);
        Desks.remember(desk, 8, 5);
        checks.same("REMEMBERED anew", desk.kept(0, 5), 1);
    }

    private static void noneSuch(Checks checks) {
        FetchDesk desk = Desks.open(0);
        for (int there = 0; there <= 6; there++) {
            checks.same("how many are there", desk.count(5), there);
            for (int i = 0; i < there; i++) {
                checks.sameDouble("left(" + i + ") of " + there, desk.left(i), i + 1);
            }
            for (int i : new int[] {Integer.MIN_VALUE, -1, there, there + 1, Integer.MAX_VALUE}) {
                checks.refuses("left(" + i + ") of " + there, Checks.NO_SUCH, () -> desk.left(i));
            }
            if (there < 6) {
                Desks.remember(desk, 8 + there, there + 1);
            }
        }
        desk.tick(1);
        Desks.remember(desk, 8, 0);
        checks.refuses("left(5) after one was forgotten", Checks.NO_SUCH, () -> desk.left(5));
        checks.sameDouble("left(4) after one was forgotten", desk.left(4), 5);
    }
}
