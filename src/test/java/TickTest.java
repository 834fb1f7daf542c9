/** Promise 6. */
public final class TickTest {
    public static void main(String[] args) {
        Checks checks = new Checks("tick");
        FetchDesk desk = new FetchDesk();
        checks.sameDouble("first tick", desk.tick(0.25), 0.25);
        checks.sameDouble("second tick", desk.tick(1000), 1000.25);
        double[] wrong = {0, -0.0, -1, 1000.001, 1001, Double.NaN, Double.POSITIVE_INFINITY,
            Double.NEGATIVE_INFINITY, -Double.MIN_VALUE};
        for (double seconds : wrong) {
            checks.refuses("tick of " + seconds, Checks.ILLEGAL, () -> desk.tick(seconds));
        }
        checks.sameDouble("the time after refusals", desk.tick(0.5), 1000.75);
        checks.sameDouble("the least tick", new FetchDesk().tick(Double.MIN_VALUE), Double.MIN_VALUE);
        checks.end();
    }
}
