import java.util.Random;
import java.util.function.Supplier;

/** Random runs of 512 calls, the same every time, whose answers are compared with the model's. */
public final class ModelRunsTest {
    private static final int RUNS = 4000;
    private static final int CALLS = 512;
    private static final int[] STATUSES = {200, 301, 302, 303, 307, 308, 304, 599};
    private static final int[] FEW_URLS = {0, 1, 8, 9, 16, 47};
    private static final int OPENING_CALLS = 2 * FEW_URLS.length;
    private static final double[] AGES = {0, 0.125, 1, 3, 9.5, 10, 10.5, 100, 0.1, 7.3};
    private static final double[] SECONDS = {0.125, 0.5, 1, 2.5, 10, 0.1, 0.3};
    private static final double[] WRONG_DOUBLES = {-1, 0, 100, 1000, 1000.5, Double.NaN, Double.POSITIVE_INFINITY};
    private static final int[] WRONG_INTS = {-2, -1, 3, 4, 6, 16, 48, 108, 256, 600, Integer.MIN_VALUE, Integer.MAX_VALUE};

    private final Random random;
    private final FetchDesk desk = new FetchDesk();
    private final Model model = new Model();
    private String call;
    private String due;

    private ModelRunsTest(long seed) {
        random = new Random(seed);
    }

    public static void main(String[] args) {
        for (int run = 0; run < RUNS; run++) {
            ModelRunsTest test = new ModelRunsTest(run);
            test.openSomeUrls();
            for (int i = OPENING_CALLS + 1; i <= CALLS; i++) {
                String got = test.oneCall();
                if (!got.equals(test.due)) {
                    System.out.println("run " + run + ", call " + i + ": " + test.call + " answered " + got + ", due is "
                            + test.due);
                    System.exit(1);
                }
            }
        }
    }

    /** Without it most fetches of a run would end in the same early ERRORS. */
    private void openSomeUrls() {
        for (int url : FEW_URLS) {
            boolean credentials = random.nextBoolean();
            int bits = random.nextInt(256) | 64 | random.nextInt(64);
            double age = AGES[random.nextInt(AGES.length)];
            desk.allow(url, bits, credentials);
            model.allow(url, bits, credentials);
            desk.asked(url, true, 12, 15, age);
            model.asked(url, true, 12, 15, age);
        }
    }

    private int upTo(int most) {
        return random.nextInt(100) == 0 ? WRONG_INTS[random.nextInt(WRONG_INTS.length)] : random.nextInt(most + 1);
    }

    private int url() {
        return random.nextInt(20) == 0 ? upTo(47) : FEW_URLS[random.nextInt(FEW_URLS.length)];
    }

    private double oneOf(double[] numbers) {
        double[] from = random.nextInt(30) == 0 ? WRONG_DOUBLES : numbers;
        return from[random.nextInt(from.length)];
    }

    private String oneCall() {
        int kind = random.nextInt(40);
        if (kind < 9) {
            return setting(kind);
        }
        if (kind < 22) {
            return fetch();
        }
        return telling(kind);
    }

    private String setting(int kind) {
        int u = url();
        int a = upTo(15);
        int b = upTo(15);
        boolean yes = random.nextInt(3) > 0;
        if (kind < 3) {
            int status = random.nextInt(50) == 0 ? upTo(700) : STATUSES[random.nextInt(STATUSES.length)];
            int body = random.nextInt();
            int target = random.nextInt(4) == 0 ? upTo(48) - 1 : url();
            due = model.serve(u, status, body, target);
            return answer("serve " + u + " " + status + " " + body + " " + target, () -> {
                desk.serve(u, status, body, target);
                return "";
            });
        }
        if (kind < 4) {
            due = model.headers(u, a, b);
            return answer("headers " + u + " " + a + " " + b, () -> {
                desk.headers(u, a, b);
                return "";
            });
        }
        if (kind < 6) {
            int bits = upTo(255);
            due = model.allow(u, bits, yes);
            return answer("allow " + u + " " + bits + " " + yes, () -> "" + desk.allow(u, bits, yes));
        }
        if (kind < 8) {
            double age = oneOf(AGES);
            due = model.asked(u, yes, a, b, age);
            return answer("asked " + u + " " + yes + " " + a + " " + b + " " + age, () -> {
                desk.asked(u, yes, a, b, age);
                return "";
            });
        }
        double seconds = oneOf(SECONDS);
        due = model.tick(seconds);
        return answer("tick " + seconds, () -> "" + desk.tick(seconds));
    }

    private String fetch() {
        int origin = upTo(5);
        int u = url();
        int mode = random.nextInt(3) == 0 ? upTo(2) : 1;
        int method = mode == 2 ? random.nextInt(2) : upTo(3);
        int wanted = mode == 2 || random.nextBoolean() ? 0 : upTo(15);
        int credentials = upTo(2);
        int redirects = random.nextInt(4) == 0 ? upTo(2) : 0;
        due = model.fetch(origin, u, method, wanted, mode, credentials, redirects);
        return answer("fetch " + origin + " " + u + " " + method + " " + wanted + " " + mode + " " + credentials + " "
                + redirects, () -> "" + desk.fetch(origin, u, method, wanted, mode, credentials, redirects));
    }

    private String telling(int kind) {
        if (kind < 29) {
            int what = upTo(9);
            due = model.told(what);
            return answer("told " + what, () -> "" + desk.told(what));
        }
        int i = upTo(5);
        if (kind < 33) {
            int what = upTo(5);
            due = model.kept(i, what);
            return answer("kept " + i + " " + what, () -> "" + desk.kept(i, what));
        }
        if (kind < 35) {
            due = model.left(i);
            return answer("left " + i, () -> "" + desk.left(i));
        }
        int what = random.nextBoolean() ? upTo(5) : random.nextInt(3) > 0 ? url() + (random.nextBoolean() ? 10 : 60) : upTo(110);
        due = model.count(what);
        return answer("count " + what, () -> "" + desk.count(what));
    }

    private String answer(String text, Supplier<String> asking) {
        call = text;
        try {
            return asking.get();
        } catch (RuntimeException thrown) {
            return thrown.getClass().getSimpleName();
        }
    }
}
