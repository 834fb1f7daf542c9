import java.util.ArrayList;
import java.util.Comparator;
import java.util.List;
import java.util.Set;

/**
 * The document once more, written in another way than the program and without thrift, for random runs to be
 * compared with. Answers are texts: a number, or the name of an exception.
 */
final class Model {
    private static final String ILLEGAL = "IllegalArgumentException";
    private static final String NO_SUCH = "IndexOutOfBoundsException";
    private static final Set<Integer> REDIRECTS = Set.of(301, 302, 303, 307, 308);

    private record Serve(int status, int body, int target) { }

    private record Allow(int origins, boolean credentials) { }

    private record Asked(boolean ok, int methods, int headers, double age) { }

    private record Key(int origin, int url, boolean sent) { }

    private record Note(Key key, int methods, int headers, double end) { }

    private final Serve[] serve = new Serve[48];
    private final int[][] headers = new int[48][2];
    private final Allow[] allow = new Allow[48];
    private final Asked[] asked = new Asked[48];
    private final List<Note> notes = new ArrayList<>();
    private final int[] counts = new int[108];
    private int[] told = new int[10];
    private double time = 0;

    Model() {
        for (int url = 0; url < 48; url++) {
            serve[url] = new Serve(200, 0, -1);
            allow[url] = new Allow(0, false);
            asked[url] = new Asked(false, 0, 0, 0);
        }
    }

    private static boolean in(int number, int least, int most) {
        return least <= number && number <= most;
    }

    String serve(int url, int status, int body, int target) {
        if (!in(url, 0, 47) || !in(status, 200, 599) || !in(target, -1, 47)) {
            return ILLEGAL;
        }
        serve[url] = new Serve(status, body, target);
        return "";
    }

    String headers(int url, int given, int exposed) {
        if (!in(url, 0, 47) || !in(given, 0, 15) || !in(exposed, 0, 15)) {
            return ILLEGAL;
        }
        headers[url] = new int[] {given, exposed};
        return "";
    }

    String allow(int url, int origins, boolean credentials) {
        if (!in(url, 0, 47) || !in(origins, 0, 255)) {
            return ILLEGAL;
        }
        int before = allow[url].origins;
        allow[url] = new Allow(origins, credentials);
        return "" + before;
    }

    String asked(int url, boolean ok, int methods, int headers, double age) {
        if (!in(url, 0, 47) || !in(methods, 0, 15) || !in(headers, 0, 15) || Double.isNaN(age) || age < 0 || age > 100) {
            return ILLEGAL;
        }
        asked[url] = new Asked(ok, methods, headers, age);
        return "";
    }

    String tick(double seconds) {
        if (Double.isNaN(seconds) || seconds <= 0 || seconds > 1000) {
            return ILLEGAL;
        }
        time += seconds;
        return "" + time;
    }

    String told(int what) {
        return in(what, 0, 9) ? "" + told[what] : ILLEGAL;
    }

    String kept(int i, int what) {
        if (!in(what, 0, 5)) {
            return ILLEGAL;
        }
        if (!in(i, 0, notes.size() - 1)) {
            return NO_SUCH;
        }
        Note note = notes.get(i);
        int[] answers = {note.key.origin, note.key.url, note.key.sent ? 1 : 0, note.methods, note.headers,
            time < note.end ? 1 : 0};
        return "" + answers[what];
    }

    String left(int i) {
        return in(i, 0, notes.size() - 1) ? "" + Math.max(0, notes.get(i).end - time) : NO_SUCH;
    }

    String count(int what) {
        if (what == 5) {
            return "" + notes.size();
        }
        return in(what, 0, 4) || in(what, 10, 57) || in(what, 60, 107) ? "" + counts[what] : ILLEGAL;
    }

    private boolean passes(int origin, int url, boolean sent) {
        Allow it = allow[url];
        boolean named = (it.origins >> origin) % 2 == 1;
        return (named || it.origins >= 128) && (!sent || (named && it.credentials));
    }

    private static boolean enough(int method, int headers, int methods, int allowedHeaders) {
        return (method <= 1 || (methods >> method) % 2 == 1) && (headers | allowedHeaders) == allowedHeaders;
    }

    private boolean mayGoOn(Key key, int method, int wanted) {
        for (Note note : notes) {
            if (note.key.equals(key) && time < note.end && enough(method, wanted, note.methods, note.headers)) {
                counts[4]++;
                return true;
            }
        }
        counts[3]++;
        notes.removeIf(note -> note.key.equals(key));
        Asked it = asked[key.url];
        if (!it.ok || !passes(key.origin, key.url, key.sent) || !enough(method, wanted, it.methods, it.headers)) {
            return false;
        }
        if (it.age > 0 && key.origin < 6) {
            if (notes.size() == 6) {
                notes.remove(notes.stream().min(Comparator.comparingDouble(Note::end)).get());
            }
            notes.add(new Note(key, it.methods, it.headers, time + Math.min(10, it.age)));
        }
        return true;
    }

    String fetch(int origin, int url, int method, int wanted, int mode, int credentials, int redirects) {
        if (!in(origin, 0, 5) || !in(url, 0, 47) || !in(method, 0, 3) || !in(wanted, 0, 15) || !in(mode, 0, 2)
                || !in(credentials, 0, 2) || !in(redirects, 0, 2) || mode == 2 && (method > 1 || wanted > 0)) {
            return ILLEGAL;
        }
        counts[0]++;
        return round(1, origin, url, method, wanted, mode, credentials, redirects, true);
    }

    private String round(int number, int origin, int url, int method, int wanted, int mode, int credentials,
            int redirects, boolean nearBefore) {
        boolean near = nearBefore && url / 8 == origin;
        boolean sent = credentials == 2 || credentials == 1 && near;
        told = new int[] {0, number, url, origin, method, sent ? 1 : 0, 0, 0, 0, 0};
        if (!near && mode == 0) {
            return error(1);
        }
        boolean cors = !near && mode == 1;
        if (cors && (method > 1 || wanted > 0) && !mayGoOn(new Key(origin, url, sent), method, wanted)) {
            return error(2);
        }
        counts[2]++;
        counts[10 + url]++;
        counts[60 + url] += sent ? 1 : 0;
        if (cors && !passes(origin, url, sent)) {
            return error(3);
        }
        Serve it = serve[url];
        if (!REDIRECTS.contains(it.status) || it.target < 0) {
            return response(near ? 0 : mode, it, headers[url]);
        }
        if (redirects > 0) {
            return redirects == 1 ? error(4) : response(3, it, headers[url]);
        }
        if (number == 5) {
            return error(5);
        }
        boolean lost = it.target / 8 != url / 8 && url / 8 != origin;
        boolean toGet = it.status <= 302 && method == 1 || it.status == 303 && method != 0;
        return round(number + 1, lost ? 6 : origin, it.target, toGet ? 0 : method, toGet ? 0 : wanted, mode,
                credentials, redirects, near);
    }

    private String error(int number) {
        counts[1]++;
        told[0] = number;
        return "UnsupportedOperationException";
    }

    private String response(int sort, Serve it, int[] sentHeaders) {
        if (sort < 2) {
            told[6] = it.status;
            told[7] = it.body;
            told[8] = sort == 0 ? sentHeaders[0] : sentHeaders[0] & sentHeaders[1];
        }
        told[9] = sort;
        return "" + sort;
    }
}
