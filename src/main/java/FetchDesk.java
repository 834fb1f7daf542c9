/**
 * Fetching between origins as a browser does it. The words in capitals in the comments are
 * those of the document, which says what each of them means.
 */
public final class FetchDesk {
    private static final int ORIGIN_COUNT = 6;
    private static final int UNKNOWN_ORIGIN = 6;
    private static final int URLS_OF_AN_ORIGIN = 8;
    private static final int URL_COUNT = ORIGIN_COUNT * URLS_OF_AN_ORIGIN;

    private static final int GET = 0;
    private static final int POST = 1;
    private static final int METHOD_COUNT = 4;
    private static final int NO_HEADERS = 0;
    private static final int ALL_FOUR_BITS = 15;

    private static final int ALLOWED_TO_ALL = 1 << 7;
    private static final int ALL_ALLOW_BITS = 255;

    private static final int STATUS_AT_FIRST = 200;
    private static final int LEAST_STATUS = 200;
    private static final int GREATEST_STATUS = 599;
    private static final int NO_TARGET = -1;

    private static final int CHOICE_COUNT = 3;
    private static final int MODE_SAME_ORIGIN = 0;
    private static final int MODE_CORS = 1;
    private static final int MODE_NO_CORS = 2;
    private static final int CREDENTIALS_SAME_ORIGIN = 1;
    private static final int CREDENTIALS_INCLUDE = 2;
    private static final int REDIRECTS_ERROR = 1;
    private static final int REDIRECTS_MANUAL = 2;
    private static final int MOST_REDIRECTS = 4;

    private static final int NO_ERROR = 0;
    private static final int ERROR_NOT_SAME_ORIGIN = 1;
    private static final int ERROR_ASKED_IN_VAIN = 2;
    private static final int ERROR_NOT_PASSED = 3;
    private static final int ERROR_REDIRECT = 4;
    private static final int ERROR_TOO_MANY_REDIRECTS = 5;

    private static final int SORT_NEAR = 0;
    private static final int SORT_CORS = 1;
    private static final int SORT_NO_CORS = 2;
    private static final int SORT_REDIRECT = 3;

    private static final int LONGEST_TICK = 1000;
    private static final int GREATEST_AGE = 100;
    private static final int LONGEST_REMEMBERED = 10;
    private static final int MOST_REMEMBERED = 6;
    private static final int NOT_FOUND = -1;

    private static final int KEPT_KINDS = 6;
    private static final int COUNT_OF_FIRST_URL = 10;
    private static final int COUNT_WITH_CREDENTIALS_OF_FIRST_URL = 60;

    private final Resource[] resources;
    private final Memory memory;
    private final Request latest;
    private double time;
    private int requestCount;
    private int errorCount;
    private int requestedCount;
    private int askedCount;
    private int rememberedCount;

    public FetchDesk() {
        resources = new Resource[URL_COUNT];
        for (int url = 0; url < URL_COUNT; url++) {
            resources[url] = new Resource();
        }
        memory = new Memory();
        latest = new Request();
    }

    public void serve(int url, int status, int body, int target) throws IllegalArgumentException {
        boolean goodStatus = status >= LEAST_STATUS && status <= GREATEST_STATUS;
        boolean goodTarget = target == NO_TARGET || isUrl(target);
        if (!isUrl(url) || !goodStatus || !goodTarget) {
            throw new IllegalArgumentException();
        }
        Resource resource = resources[url];
        resource.status = status;
        resource.body = body;
        resource.target = target;
    }

    public void headers(int url, int given, int exposed) throws IllegalArgumentException {
        if (!isUrl(url) || !isFourBits(given) || !isFourBits(exposed)) {
            throw new IllegalArgumentException();
        }
        Resource resource = resources[url];
        resource.givenHeaders = given;
        resource.exposedHeaders = exposed;
    }

    public int allow(int url, int origins, boolean credentials) throws IllegalArgumentException {
        if (!isUrl(url) || origins < 0 || origins > ALL_ALLOW_BITS) {
            throw new IllegalArgumentException();
        }
        Resource resource = resources[url];
        int originsBefore = resource.allowedOrigins;
        resource.allowedOrigins = origins;
        resource.allowsCredentials = credentials;
        return originsBefore;
    }

    public void asked(int url, boolean ok, int methods, int headers, double age) throws IllegalArgumentException {
        // NaN is in no range, so the range is asked for and not what lies outside of it.
        boolean goodAge = age >= 0 && age <= GREATEST_AGE;
        if (!isUrl(url) || !isFourBits(methods) || !isFourBits(headers) || !goodAge) {
            throw new IllegalArgumentException();
        }
        Resource resource = resources[url];
        resource.okWhenAsked = ok;
        resource.askedMethods = methods;
        resource.askedHeaders = headers;
        resource.age = age;
    }

    public double tick(double seconds) throws IllegalArgumentException {
        boolean goodSeconds = seconds > 0 && seconds <= LONGEST_TICK;
        if (!goodSeconds) {
            throw new IllegalArgumentException();
        }
        time = time + seconds;
        return time;
    }

    public int fetch(int origin, int url, int method, int headers, int mode, int credentials, int redirects)
            throws IllegalArgumentException, UnsupportedOperationException {
        if (!isOrigin(origin) || !isUrl(url) || !isMethod(method) || !isFourBits(headers)) {
            throw new IllegalArgumentException();
        }
        if (!isChoice(mode) || !isChoice(credentials) || !isChoice(redirects)) {
            throw new IllegalArgumentException();
        }
        if (mode == MODE_NO_CORS && !isPlain(method, headers)) {
            throw new IllegalArgumentException();
        }
        latest.begin(origin, url, method, headers, mode, credentials, redirects);
        requestCount++;
        goThroughRounds();
        if (latest.error != NO_ERROR) {
            errorCount++;
            throw new UnsupportedOperationException();
        }
        return latest.sort;
    }

    public int told(int what) throws IllegalArgumentException {
        switch (what) {
            case 0: return latest.error;
            case 1: return latest.rounds;
            case 2: return latest.url;
            case 3: return latest.origin;
            case 4: return latest.method;
            case 5: return latest.sendsCredentials ? 1 : 0;
            case 6: return latest.shownStatus;
            case 7: return latest.shownBody;
            case 8: return latest.shownHeaders;
            case 9: return latest.sort;
            default: throw new IllegalArgumentException();
        }
    }

    public int kept(int i, int what) throws IllegalArgumentException, IndexOutOfBoundsException {
        if (what < 0 || what >= KEPT_KINDS) {
            throw new IllegalArgumentException();
        }
        if (!memory.holds(i)) {
            throw new IndexOutOfBoundsException();
        }
        Permit permit = memory.permits[i];
        switch (what) {
            case 0: return permit.origin;
            case 1: return permit.url;
            case 2: return permit.withCredentials ? 1 : 0;
            case 3: return permit.methods;
            case 4: return permit.headers;
            default: return time < permit.end ? 1 : 0;
        }
    }

    public double left(int i) throws IndexOutOfBoundsException {
        if (!memory.holds(i)) {
            throw new IndexOutOfBoundsException();
        }
        double end = memory.permits[i].end;
        return time < end ? end - time : 0;
    }

    public int count(int what) throws IllegalArgumentException {
        if (isUrl(what - COUNT_OF_FIRST_URL)) {
            return resources[what - COUNT_OF_FIRST_URL].requestedCount;
        }
        if (isUrl(what - COUNT_WITH_CREDENTIALS_OF_FIRST_URL)) {
            return resources[what - COUNT_WITH_CREDENTIALS_OF_FIRST_URL].requestedWithCredentialsCount;
        }
        switch (what) {
            case 0: return requestCount;
            case 1: return errorCount;
            case 2: return requestedCount;
            case 3: return askedCount;
            case 4: return rememberedCount;
            case 5: return memory.size;
            default: throw new IllegalArgumentException();
        }
    }

    private void goThroughRounds() {
        boolean goesOn = true;
        for (int redirectsBefore = 0; goesOn && redirectsBefore <= MOST_REDIRECTS; redirectsBefore++) {
            goesOn = goOneRound(redirectsBefore);
        }
    }

    /** Answers whether another ROUND follows. */
    private boolean goOneRound(int redirectsBefore) {
        latest.enterRound();
        Resource resource = resources[latest.url];
        latest.error = errorBeforeRequesting(resource);
        if (latest.error != NO_ERROR) {
            return false;
        }
        countRequested(resource);
        if (latest.mustPass() && !latest.passes(resource)) {
            latest.error = ERROR_NOT_PASSED;
            return false;
        }
        if (resource.isRedirect()) {
            return latest.meetRedirect(resource, redirectsBefore);
        }
        latest.takeResponse(resource);
        return false;
    }

    private int errorBeforeRequesting(Resource resource) {
        if (latest.far && latest.mode == MODE_SAME_ORIGIN) {
            return ERROR_NOT_SAME_ORIGIN;
        }
        if (!latest.mustPass() || isPlain(latest.method, latest.headers)) {
            return NO_ERROR;
        }
        if (memory.covers(latest, time)) {
            rememberedCount++;
            return NO_ERROR;
        }
        return ask(resource) ? NO_ERROR : ERROR_ASKED_IN_VAIN;
    }

    /** Answers whether the RESOURCE, being ASKED, lets the REQUEST come. */
    private boolean ask(Resource resource) {
        askedCount++;
        memory.forget(latest);
        boolean answersWell = resource.okWhenAsked && latest.passes(resource);
        if (!answersWell || !lets(resource.askedMethods, resource.askedHeaders, latest)) {
            return false;
        }
        if (resource.age > 0 && latest.origin != UNKNOWN_ORIGIN) {
            memory.remember(latest, resource, time);
        }
        return true;
    }

    private void countRequested(Resource resource) {
        requestedCount++;
        resource.requestedCount++;
        if (latest.sendsCredentials) {
            resource.requestedWithCredentialsCount++;
        }
    }

    private static boolean isOrigin(int number) {
        return number >= 0 && number < ORIGIN_COUNT;
    }

    private static boolean isUrl(int number) {
        return number >= 0 && number < URL_COUNT;
    }

    private static boolean isMethod(int number) {
        return number >= 0 && number < METHOD_COUNT;
    }

    private static boolean isFourBits(int number) {
        return number >= 0 && number <= ALL_FOUR_BITS;
    }

    private static boolean isChoice(int number) {
        return number >= 0 && number < CHOICE_COUNT;
    }

    private static boolean isSimple(int method) {
        return method == GET || method == POST;
    }

    /** Plain is what needs no asking beforehand, and what NO CORS can have. */
    private static boolean isPlain(int method, int headers) {
        return isSimple(method) && headers == NO_HEADERS;
    }

    /** Whether these METHODS and HEADERS, answered to asking, are enough for the REQUEST. */
    private static boolean lets(int methods, int headers, Request request) {
        boolean letsMethod = isSimple(request.method) || (methods & (1 << request.method)) != 0;
        boolean letsHeaders = (request.headers & ~headers) == NO_HEADERS;
        return letsMethod && letsHeaders;
    }

    private static int originOf(int url) {
        return url / URLS_OF_AN_ORIGIN;
    }

    private static final class Resource {
        private int status;
        private int body;
        private int target;
        private int givenHeaders;
        private int exposedHeaders;
        private int allowedOrigins;
        private boolean allowsCredentials;
        private boolean okWhenAsked;
        private int askedMethods;
        private int askedHeaders;
        private double age;
        private int requestedCount;
        private int requestedWithCredentialsCount;

        private Resource() {
            status = STATUS_AT_FIRST;
            target = NO_TARGET;
        }

        private boolean isRedirect() {
            if (target == NO_TARGET) {
                return false;
            }
            switch (status) {
                case 301:
                case 302:
                case 303:
                case 307:
                case 308:
                    return true;
                default:
                    return false;
            }
        }

        private boolean turnsIntoGet(int method) {
            if (status == 303) {
                return method != GET;
            }
            return (status == 301 || status == 302) && method == POST;
        }
    }

    /** The latest REQUEST with all that is told of it; one object serves for all of them. */
    private static final class Request {
        private int origin;
        private int url;
        private int method;
        private int headers;
        private int mode;
        private int credentials;
        private int redirects;
        private int rounds;
        private boolean far;
        private boolean sendsCredentials;
        private int error;
        private int shownStatus;
        private int shownBody;
        private int shownHeaders;
        private int sort;

        private void begin(int origin, int url, int method, int headers, int mode, int credentials, int redirects) {
            this.origin = origin;
            this.url = url;
            this.method = method;
            this.headers = headers;
            this.mode = mode;
            this.credentials = credentials;
            this.redirects = redirects;
            rounds = 0;
            far = false;
            sendsCredentials = false;
            error = NO_ERROR;
            show(0, 0, NO_HEADERS, SORT_NEAR);
        }

        private void show(int status, int body, int headersToShow, int sortOfResponse) {
            shownStatus = status;
            shownBody = body;
            shownHeaders = headersToShow;
            sort = sortOfResponse;
        }

        private void enterRound() {
            rounds++;
            // Once FAR it stays so, even if a REDIRECT leads back to the first ORIGIN.
            far = far || originOf(url) != origin;
            sendsCredentials = credentials == CREDENTIALS_INCLUDE
                    || (credentials == CREDENTIALS_SAME_ORIGIN && !far);
        }

        private boolean mustPass() {
            return far && mode == MODE_CORS;
        }

        private boolean passes(Resource resource) {
            boolean byName = (resource.allowedOrigins & (1 << origin)) != 0;
            if (sendsCredentials) {
                return byName && resource.allowsCredentials;
            }
            return byName || (resource.allowedOrigins & ALLOWED_TO_ALL) != 0;
        }

        /** Answers whether the REDIRECT is followed. */
        private boolean meetRedirect(Resource resource, int redirectsBefore) {
            if (redirects == REDIRECTS_ERROR) {
                error = ERROR_REDIRECT;
                return false;
            }
            if (redirects == REDIRECTS_MANUAL) {
                show(0, 0, NO_HEADERS, SORT_REDIRECT);
                return false;
            }
            if (redirectsBefore >= MOST_REDIRECTS) {
                error = ERROR_TOO_MANY_REDIRECTS;
                return false;
            }
            follow(resource);
            return true;
        }

        private void follow(Resource resource) {
            int here = originOf(url);
            if (originOf(resource.target) != here && here != origin) {
                origin = UNKNOWN_ORIGIN;
            }
            if (resource.turnsIntoGet(method)) {
                method = GET;
                headers = NO_HEADERS;
            }
            url = resource.target;
        }

        private void takeResponse(Resource resource) {
            if (!far) {
                show(resource.status, resource.body, resource.givenHeaders, SORT_NEAR);
            } else if (mode == MODE_CORS) {
                int visible = resource.givenHeaders & resource.exposedHeaders;
                show(resource.status, resource.body, visible, SORT_CORS);
            } else {
                show(0, 0, NO_HEADERS, SORT_NO_CORS);
            }
        }
    }

    /** What a RESOURCE answered when it was ASKED, as it is remembered. */
    private static final class Permit {
        private int origin;
        private int url;
        private boolean withCredentials;
        private int methods;
        private int headers;
        private double end;

        private void write(Request request, Resource resource, double endOfIt) {
            origin = request.origin;
            url = request.url;
            withCredentials = request.sendsCredentials;
            methods = resource.askedMethods;
            headers = resource.askedHeaders;
            end = endOfIt;
        }
    }

    /** The remembered answers, the one that came first in front; those that have ended stay. */
    private static final class Memory {
        private final Permit[] permits;
        private int size;

        private Memory() {
            permits = new Permit[MOST_REMEMBERED];
            for (int i = 0; i < MOST_REMEMBERED; i++) {
                permits[i] = new Permit();
            }
        }

        private boolean holds(int i) {
            return i >= 0 && i < size;
        }

        private int find(Request request) {
            for (int i = 0; i < size; i++) {
                Permit permit = permits[i];
                if (permit.origin == request.origin && permit.url == request.url
                        && permit.withCredentials == request.sendsCredentials) {
                    return i;
                }
            }
            return NOT_FOUND;
        }

        private boolean covers(Request request, double time) {
            int i = find(request);
            if (i == NOT_FOUND) {
                return false;
            }
            Permit permit = permits[i];
            return time < permit.end && lets(permit.methods, permit.headers, request);
        }

        private void forget(Request request) {
            int i = find(request);
            if (i != NOT_FOUND) {
                drop(i);
            }
        }

        private void remember(Request request, Resource resource, double time) {
            if (size == MOST_REMEMBERED) {
                drop(firstToEnd());
            }
            double seconds = resource.age < LONGEST_REMEMBERED ? resource.age : LONGEST_REMEMBERED;
            permits[size].write(request, resource, time + seconds);
            size++;
        }

        private int firstToEnd() {
            int first = 0;
            for (int i = 1; i < size; i++) {
                if (permits[i].end < permits[first].end) {
                    first = i;
                }
            }
            return first;
        }

        private void drop(int i) {
            Permit dropped = permits[i];
            for (int k = i + 1; k < size; k++) {
                permits[k - 1] = permits[k];
            }
            size--;
            // The dropped one goes behind the others, to be written anew later.
            permits[size] = dropped;
        }
    }
}
