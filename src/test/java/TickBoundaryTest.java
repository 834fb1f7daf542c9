/** Promise 6: the boundary cases. */
public final class TickBoundaryTest {
    private static final double[] WRONG = {Double.NaN, Double.NEGATIVE_INFINITY, -1000, -1, -Double.MIN_VALUE, -0.0, 0,
        Math.nextUp(1000.0), 1001, Double.MAX_VALUE, Double.POSITIVE_INFINITY};

    public static void main(String[] args) {
        Checks checks = new Checks("tick, boundaries");
        checks.sentence("above 0", TickBoundaryTest::aboveZero);
        checks.sentence("to 1000", TickBoundaryTest::toOneThousand);
        checks.sentence("THE TIME is so much more: it", TickBoundaryTest::timeIsTheSum);
        checks.sentence("IllegalArgumentException for another number", TickBoundaryTest::refusedChangesNothing);
        checks.end();
    }

    private static void aboveZero(Checks checks) {
        FetchDesk desk = new FetchDesk();
        checks.refuses("0", Checks.ILLEGAL, () -> desk.tick(0));
        checks.refuses("0 with a minus", Checks.ILLEGAL, () -> desk.tick(-0.0));
        checks.refuses("just below 0", Checks.ILLEGAL, () -> desk.tick(-Double.MIN_VALUE));
        checks.sameDouble("just above 0", desk.tick(Double.MIN_VALUE), Double.MIN_VALUE);
    }

    private static void toOneThousand(Checks checks) {
        checks.sameDouble("just below 1000", new FetchDesk().tick(Math.nextDown(1000.0)), Math.nextDown(1000.0));
        checks.sameDouble("1000", new FetchDesk().tick(1000), 1000);
        checks.refuses("just above 1000", Checks.ILLEGAL, () -> new FetchDesk().tick(Math.nextUp(1000.0)));
    }

    private static void timeIsTheSum(Checks checks) {
        FetchDesk desk = new FetchDesk();
        checks.sameDouble("the first", desk.tick(0.1), 0.1);
        checks.sameDouble("the second", desk.tick(0.1), 0.1 + 0.1);
        checks.sameDouble("the third", desk.tick(0.1), 0.1 + 0.1 + 0.1);
        FetchDesk exact = new FetchDesk();
        checks.sameDouble("a quarter", exact.tick(0.25), 0.25);
        checks.sameDouble("1000 more", exact.tick(1000), 1000.25);
        checks.sameDouble("a half more", exact.tick(0.5), 1000.75);
        FetchDesk longest = new FetchDesk();
        for (int i = 1; i <= 511; i++) {
            checks.sameDouble("the longest ones", longest.tick(1000), 1000.0 * i);
        }
        checks.sameDouble("too little to be seen", longest.tick(Double.MIN_VALUE), 511000);
    }

    private static void refusedChangesNothing(Checks checks) {
        FetchDesk desk = Desks.open(0);
        checks.refusesEach("at first", WRONG, desk::tick);
        checks.sameDouble("the time is still 0", desk.tick(0.5), 0.5);
        Desks.remember(desk, 8, 5);
        checks.refusesEach("later", WRONG, desk::tick);
        checks.sameDouble("what is left", desk.left(0), 5);
        checks.sameDouble("the time is still 0.5", desk.tick(1000), 1000.5);
    }
}
