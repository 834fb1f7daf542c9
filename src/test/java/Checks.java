import java.util.function.Consumer;
import java.util.function.DoubleConsumer;
import java.util.function.IntConsumer;

/** What the tests share: comparing answers, and ending with exit code 1 if one was wrong. */
final class Checks {
    static final Class<IllegalArgumentException> ILLEGAL = IllegalArgumentException.class;
    static final Class<IndexOutOfBoundsException> NO_SUCH = IndexOutOfBoundsException.class;
    static final Class<UnsupportedOperationException> ERROR = UnsupportedOperationException.class;

    private final String title;
    private String sentence = "";
    private int wrong = 0;

    Checks(String title) {
        this.title = title;
    }

    /** Runs the test of one sentence of the document; what it throws without being awaited is told as wrong, too. */
    void sentence(String words, Consumer<Checks> test) {
        sentence = "'" + words + "': ";
        try {
            test.accept(this);
        } catch (RuntimeException thrown) {
            tell("threw " + thrown + ", which nobody awaited, at " + thrown.getStackTrace()[0]);
        }
        sentence = "";
    }

    void same(String what, long got, long due) {
        if (got != due) {
            tell(what + " answered " + got + ", due is " + due);
        }
    }

    void sameDouble(String what, double got, double due) {
        if (Double.compare(got, due) != 0) {
            tell(what + " answered " + got + ", due is " + due);
        }
    }

    void refuses(String what, Class<? extends RuntimeException> due, Runnable call) {
        String got = "nothing";
        try {
            call.run();
        } catch (RuntimeException thrown) {
            got = thrown.getClass().getName();
        }
        if (!got.equals(due.getName())) {
            tell(what + " threw " + got + ", due is " + due.getName());
        }
    }

    /** Each of these numbers is no argument for the call. */
    void refusesEach(String what, int[] numbers, IntConsumer call) {
        for (int number : numbers) {
            refuses(what + " with " + number, ILLEGAL, () -> call.accept(number));
        }
    }

    /** Each of these numbers is no argument for the call. */
    void refusesEach(String what, double[] numbers, DoubleConsumer call) {
        for (double number : numbers) {
            refuses(what + " with " + number, ILLEGAL, () -> call.accept(number));
        }
    }

    /** Compares told(0), told(1) and so on with these. */
    void told(String what, FetchDesk desk, int... due) {
        for (int i = 0; i < due.length; i++) {
            same(what + ": told(" + i + ")", desk.told(i), due[i]);
        }
    }

    /** Compares count(0), count(1) and so on with these. */
    void counts(String what, FetchDesk desk, int... due) {
        for (int i = 0; i < due.length; i++) {
            same(what + ": count(" + i + ")", desk.count(i), due[i]);
        }
    }

    /** Compares kept(i, 0), kept(i, 1) and so on with these. */
    void kept(String what, FetchDesk desk, int i, int... due) {
        for (int k = 0; k < due.length; k++) {
            same(what + ": kept(" + i + ", " + k + ")", desk.kept(i, k), due[k]);
        }
    }

    /** Compares the URLS that are remembered with these, in the order in which they came. */
    void keptUrls(String what, FetchDesk desk, int... due) {
        same(what + ": how many are remembered", desk.count(5), due.length);
        for (int i = 0; i < due.length && i < desk.count(5); i++) {
            same(what + ": kept(" + i + ", 1)", desk.kept(i, 1), due[i]);
        }
    }

    /** The sort of THE RESPONSE, or the number of the ERROR with a minus before it. */
    static int outcome(FetchDesk desk, int origin, int url, int method, int headers, int mode, int credentials,
            int redirects) {
        try {
            return desk.fetch(origin, url, method, headers, mode, credentials, redirects);
        } catch (UnsupportedOperationException thrown) {
            return -desk.told(0);
        }
    }

    void end() {
        if (wrong > 0) {
            System.out.println(title + ": " + wrong + " answers are not as due");
            System.exit(1);
        }
    }

    private void tell(String text) {
        wrong++;
        if (wrong <= 20) {
            System.out.println(title + ": " + sentence + text);
        }
    }
}
