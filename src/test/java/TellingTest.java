/** Promises 8 to 11: told, kept, left, count. */
public final class TellingTest {
    public static void main(String[] args) {
        Checks checks = new Checks("telling");
        toldOfTheLatest(checks);
        keptOfEach(checks);
        leftOfEach(checks);
        countsOfUrls(checks);
        checks.end();
    }

    private static void toldOfTheLatest(Checks checks) {
        FetchDesk desk = new FetchDesk();
        desk.serve(40, 404, -7, -1);
        desk.headers(40, 12, 4);
        desk.allow(40, 8, true);
        desk.fetch(3, 40, 1, 0, 1, 2, 0);
        checks.told("cors", desk, 0, 1, 40, 3, 1, 1, 404, -7, 4, 1);
        checks.same("an error", Checks.outcome(desk, 2, 40, 1, 0, 1, 2, 0), -3);
        checks.told("an error wipes the response", desk, 3, 1, 40, 2, 1, 1, 0, 0, 0, 0);
        desk.fetch(5, 40, 3, 1, 0, 0, 0);
        checks.told("near", desk, 0, 1, 40, 5, 3, 0, 404, -7, 12, 0);
        desk.serve(40, 200, 1, -1);
        desk.headers(40, 0, 0);
        checks.told("it was told as it was then", desk, 0, 1, 40, 5, 3, 0, 404, -7, 12, 0);
        checks.same("asked in vain", Checks.outcome(desk, 3, 40, 2, 0, 1, 2, 0), -2);
        checks.told("sent, though it did not come to that", desk, 2, 1, 40, 3, 2, 1, 0, 0, 0, 0);
    }

    private static FetchDesk remembering() {
        FetchDesk desk = new FetchDesk();
        desk.allow(47, 4, true);
        desk.asked(47, true, 12, 10, 2.5);
        desk.fetch(2, 47, 3, 8, 1, 2, 0);
        desk.tick(1);
        desk.allow(0, 128, false);
        desk.asked(0, true, 7, 5, 100);
        desk.fetch(5, 0, 0, 4, 1, 1, 0);
        return desk;
    }

    private static void keptOfEach(Checks checks) {
        FetchDesk desk = remembering();
        checks.kept("the first", desk, 0, 2, 47, 1, 12, 10, 1);
        checks.kept("the second", desk, 1, 5, 0, 0, 7, 5, 1);
        desk.tick(1.5);
        checks.kept("the first, ended", desk, 0, 2, 47, 1, 12, 10, 0);
        checks.kept("the second, not ended", desk, 1, 5, 0, 0, 7, 5, 1);
        desk.tick(8.5);
        checks.kept("the second, ended", desk, 1, 5, 0, 0, 7, 5, 0);
    }

    private static void leftOfEach(Checks checks) {
        FetchDesk desk = remembering();
        checks.sameDouble("the first", desk.left(0), 1.5);
        checks.sameDouble("the second", desk.left(1), 10);
        desk.tick(1.5);
        checks.sameDouble("the first at its end", desk.left(0), 0);
        checks.sameDouble("the second then", desk.left(1), 8.5);
        desk.tick(1000);
        checks.sameDouble("the first after its end", desk.left(0), 0);
        checks.sameDouble("the second after its end", desk.left(1), 0);
    }

    private static void countsOfUrls(Checks checks) {
        FetchDesk desk = new FetchDesk();
        for (int url = 0; url < 48; url++) {
            desk.fetch(url / 8, url, 0, 0, 0, 0, 0);
            desk.fetch(url / 8, url, 0, 0, 0, 1, 0);
            desk.fetch(0, url, 0, 0, 2, 2, 0);
            checks.same("count(10 + " + url + ")", desk.count(10 + url), 3);
            checks.same("count(60 + " + url + ")", desk.count(60 + url), 2);
        }
        checks.counts("all of them", desk, 144, 0, 144, 0, 0, 0);
        checks.same("an error before requesting", Checks.outcome(desk, 0, 47, 0, 0, 0, 2, 0), -1);
        checks.same("an error after requesting", Checks.outcome(desk, 0, 46, 0, 0, 1, 2, 0), -3);
        checks.same("asked in vain", Checks.outcome(desk, 0, 45, 2, 0, 1, 2, 0), -2);
        checks.counts("with errors", desk, 147, 3, 145, 1, 0, 0);
        checks.same("47 was not requested", desk.count(57), 3);
        checks.same("46 was requested", desk.count(56), 4);
        checks.same("46 was requested with credentials", desk.count(106), 3);
        checks.same("45 was asked, not requested", desk.count(55), 3);
    }
}
