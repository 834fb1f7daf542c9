/** Promise 7 and the paragraph TO BE ASKED: the boundary cases. */
public final class RememberingBoundaryTest {
    public static void main(String[] args) {
        Checks checks = new Checks("remembering, boundaries");
        checks.sentence("the RESOURCE is ASKED (that is counted, apart)", RememberingBoundaryTest::countedApart);
        checks.sentence("of the same ORIGIN, URL and CREDENTIALS is forgotten", RememberingBoundaryTest::forgotten);
        checks.sentence("is forgotten: also if it is an ERROR 2 then", RememberingBoundaryTest::forgottenAllTheSame);
        checks.sentence("else it is an ERROR 2", RememberingBoundaryTest::errorTwo);
        checks.sentence("and PASS (as if CREDENTIALS are SENT if they will be)", RememberingBoundaryTest::mustPass);
        checks.sentence("if AGE is above 0", RememberingBoundaryTest::ageAboveZero);
        checks.sentence("and the ORIGIN is not UNKNOWN", RememberingBoundaryTest::notUnknown);
        checks.sentence("till TIME and AGE (10 seconds at most)", RememberingBoundaryTest::tenSecondsAtMost);
        checks.sentence("if there are 6 before, the one that ends first goes", RememberingBoundaryTest::sixBefore);
        checks.sentence("of several the one that came first", RememberingBoundaryTest::ofSeveral);
        checks.sentence("if there are 6 before, and none comes, none goes", RememberingBoundaryTest::noneComes);
        checks.sentence("if there are 6 before, and one of them is forgotten", RememberingBoundaryTest::oneOfThemAgain);
        checks.sentence("if one with its ORIGIN, URL, CREDENTIALS is there", RememberingBoundaryTest::itsOwn);
        checks.sentence("TIME is below its end", RememberingBoundaryTest::belowItsEnd);
        checks.sentence("the METHOD is SIMPLE or in it, and all HEADERS are", RememberingBoundaryTest::methodAndHeaders);
        checks.end();
    }

    private static void countedApart(Checks checks) {
        FetchDesk desk = Desks.open(0);
        desk.fetch(0, 8, 2, 0, 1, 2, 0);
        checks.counts("ASKED and REQUESTED", desk, 1, 0, 1, 1, 0, 0);
        checks.same("of this URL REQUESTED alone", desk.count(18), 1);
        checks.same("and with CREDENTIALS", desk.count(68), 1);
        desk.asked(8, false, 15, 15, 0);
        checks.same("in vain", Checks.outcome(desk, 0, 8, 2, 0, 1, 2, 0), -2);
        checks.counts("ASKED alone", desk, 2, 1, 1, 2, 0, 0);
        checks.same("of this URL not REQUESTED", desk.count(18), 1);
    }

    /** Three that differ in one part each from the one that is asked for again, and that one. */
    private static FetchDesk fourAlike() {
        FetchDesk desk = Desks.open(5);
        desk.fetch(0, 8, 2, 0, 1, 0, 0);
        desk.fetch(2, 8, 2, 0, 1, 0, 0);
        desk.fetch(0, 9, 2, 0, 1, 0, 0);
        desk.fetch(0, 8, 2, 0, 1, 2, 0);
        return desk;
    }

    private static void forgotten(Checks checks) {
        FetchDesk desk = fourAlike();
        checks.same("four", desk.count(5), 4);
        desk.asked(8, true, 15, 14, 5);
        desk.tick(5);
        desk.fetch(0, 8, 2, 0, 1, 1, 0);
        checks.same("four again", desk.count(5), 4);
        checks.kept("another ORIGIN's", desk, 0, 2, 8, 0, 15, 15, 0);
        checks.kept("another URL's", desk, 1, 0, 9, 0, 15, 15, 0);
        checks.kept("that with CREDENTIALS", desk, 2, 0, 8, 1, 15, 15, 0);
        checks.kept("the new one", desk, 3, 0, 8, 0, 15, 14, 1);
    }

    private static void forgottenAllTheSame(Checks checks) {
        FetchDesk notOk = fourAlike();
        notOk.tick(5);
        notOk.asked(8, false, 15, 15, 5);
        checks.same("not OK", Checks.outcome(notOk, 0, 8, 2, 0, 1, 0, 0), -2);
        checks.keptUrls("not OK", notOk, 8, 9, 8);
        FetchDesk notPassed = fourAlike();
        notPassed.tick(5);
        notPassed.allow(8, 0, true);
        checks.same("not PASSED", Checks.outcome(notPassed, 0, 8, 2, 0, 1, 2, 0), -2);
        checks.keptUrls("not PASSED", notPassed, 8, 8, 9);
        FetchDesk notLet = fourAlike();
        notLet.asked(9, true, 4, 0, 5);
        checks.same("that is REMEMBERED", Checks.outcome(notLet, 0, 9, 3, 1, 1, 0, 0), 1);
        notLet.tick(5);
        checks.same("not let", Checks.outcome(notLet, 0, 9, 3, 0, 1, 0, 0), -2);
        checks.keptUrls("not let", notLet, 8, 8, 8);
        FetchDesk noAge = fourAlike();
        noAge.tick(5);
        noAge.asked(8, true, 15, 15, 0);
        checks.same("AGE 0", Checks.outcome(noAge, 2, 8, 2, 0, 1, 0, 0), 1);
        checks.keptUrls("AGE 0", noAge, 8, 9, 8);
    }

    /** DELETE with the first and the last HEADER and with CREDENTIALS, ASKED for at a RESOURCE like this. */
    private static void asking(Checks checks, String what, boolean ok, int origins, int methods, int headers, int due) {
        FetchDesk desk = new FetchDesk();
        desk.allow(8, origins, true);
        desk.asked(8, ok, methods, headers, 5);
        checks.same(what, Checks.outcome(desk, 0, 8, 3, 9, 1, 2, 0), due);
        int good = due == 1 ? 1 : 0;
        checks.counts(what, desk, 1, 1 - good, good, 1, 0, good);
    }

    private static void errorTwo(Checks checks) {
        asking(checks, "no more than must be", true, 1, 8, 9, 1);
        asking(checks, "all there can be", true, 255, 15, 15, 1);
        asking(checks, "not OK", false, 255, 15, 15, -2);
        asking(checks, "it does not PASS", true, 254, 15, 15, -2);
        asking(checks, "every other METHOD", true, 255, 7, 15, -2);
        asking(checks, "no METHOD", true, 255, 0, 15, -2);
        asking(checks, "the first HEADER is wanting", true, 255, 15, 14, -2);
        asking(checks, "the last HEADER is wanting", true, 255, 15, 7, -2);
        asking(checks, "no HEADER", true, 255, 15, 0, -2);
        FetchDesk desk = Desks.open(5);
        desk.asked(8, true, 0, 8, 5);
        checks.same("GET is SIMPLE", Checks.outcome(desk, 0, 8, 0, 8, 1, 0, 0), 1);
        checks.same("POST is SIMPLE", Checks.outcome(desk, 2, 8, 1, 8, 1, 0, 0), 1);
        checks.same("PUT is not", Checks.outcome(desk, 3, 8, 2, 8, 1, 0, 0), -2);
        checks.told("PUT is not", desk, 2, 1, 8, 3, 2, 0, 0, 0, 0, 0);
    }

    private static void mustPass(Checks checks) {
        FetchDesk desk = new FetchDesk();
        desk.asked(8, true, 15, 15, 0);
        int[][] cases = {{0, 0, -2, -2}, {1, 0, 1, -2}, {1, 1, 1, 1}, {128, 0, 1, -2}, {128, 1, 1, -2}, {129, 1, 1, 1},
            {254, 1, 1, -2}, {126, 1, -2, -2}};
        for (int[] a : cases) {
            desk.allow(8, a[0], a[1] == 1);
            String what = "ORIGINS " + a[0] + ", CREDENTIALS " + a[1];
            checks.same(what + ", not SENT", Checks.outcome(desk, 0, 8, 2, 0, 1, 1, 0), a[2]);
            checks.same(what + ", SENT", Checks.outcome(desk, 0, 8, 2, 0, 1, 2, 0), a[3]);
        }
    }

    private static void ageAboveZero(Checks checks) {
        FetchDesk desk = Desks.open(0);
        Desks.remember(desk, 8, 0);
        checks.counts("AGE 0", desk, 1, 0, 1, 1, 0, 0);
        Desks.remember(desk, 8, 0);
        checks.counts("AGE 0 again", desk, 2, 0, 2, 2, 0, 0);
        Desks.remember(desk, 8, Double.MIN_VALUE);
        checks.counts("the least AGE", desk, 3, 0, 3, 3, 0, 1);
        Desks.remember(desk, 8, 0);
        checks.counts("it is REMEMBERED", desk, 4, 0, 4, 3, 1, 1);
        desk.tick(1);
        Desks.remember(desk, 8, Double.MIN_VALUE);
        checks.counts("too little to be seen beside the TIME", desk, 5, 0, 5, 4, 1, 1);
        checks.kept("too little to be seen beside the TIME", desk, 0, 0, 8, 0, 15, 15, 0);
        checks.sameDouble("what is left of it", desk.left(0), 0);
    }

    private static void notUnknown(Checks checks) {
        FetchDesk desk = Desks.open(5);
        desk.serve(8, 307, 0, 16);
        desk.serve(9, 307, 0, 10);
        desk.fetch(0, 8, 2, 0, 1, 0, 0);
        checks.counts("as UNKNOWN", desk, 1, 0, 2, 2, 0, 1);
        checks.keptUrls("as UNKNOWN", desk, 8);
        desk.fetch(0, 8, 2, 0, 1, 0, 0);
        checks.counts("ASKED each time", desk, 2, 0, 4, 3, 1, 1);
        desk.fetch(5, 9, 2, 0, 1, 0, 0);
        checks.keptUrls("ORIGIN 5, within one ORIGIN", desk, 8, 9, 10);
        checks.kept("ORIGIN 5, within one ORIGIN", desk, 2, 5, 10, 0, 15, 15, 1);
    }

    private static void tenSecondsAtMost(Checks checks) {
        double[] ages = {Double.MIN_VALUE, 9, Math.nextDown(10.0), 10, Math.nextUp(10.0), 11, 100};
        for (double age : ages) {
            double seconds = age < 10 ? age : 10;
            FetchDesk desk = Desks.open(0);
            Desks.remember(desk, 8, age);
            checks.sameDouble("from 0, AGE " + age, desk.left(0), seconds);
            desk.tick(512);
            Desks.remember(desk, 9, age);
            checks.sameDouble("from 512, AGE " + age, desk.left(1), 512 + seconds - 512);
        }
        FetchDesk desk = Desks.open(0);
        Desks.remember(desk, 8, 100);
        desk.tick(Math.nextDown(10.0));
        checks.same("just before 10 seconds", desk.kept(0, 5), 1);
        desk.tick(10 - Math.nextDown(10.0));
        checks.same("at 10 seconds", desk.kept(0, 5), 0);
    }

    private static FetchDesk six(double... ages) {
        FetchDesk desk = Desks.open(0);
        for (int i = 0; i < 6; i++) {
            Desks.remember(desk, 8 + i, ages[i]);
        }
        return desk;
    }

    private static void sixBefore(Checks checks) {
        FetchDesk desk = six(6, 5, 4, 7, 8, 9);
        checks.keptUrls("5 before", desk, 8, 9, 10, 11, 12, 13);
        Desks.remember(desk, 14, 3);
        checks.keptUrls("6 before", desk, 8, 9, 11, 12, 13, 14);
        Desks.remember(desk, 15, 100);
        checks.keptUrls("the last one goes", desk, 8, 9, 11, 12, 13, 15);
        Desks.remember(desk, 16, 100);
        Desks.remember(desk, 17, 100);
        checks.keptUrls("the first one goes", desk, 11, 12, 13, 15, 16, 17);
        desk.tick(8.5);
        Desks.remember(desk, 18, 100);
        checks.keptUrls("an ended one is one of the 6", desk, 12, 13, 15, 16, 17, 18);
        desk.tick(Math.nextUp(1.5));
        Desks.remember(desk, 19, 0.5);
        checks.keptUrls("the ended one that ended first", desk, 13, 15, 16, 17, 18, 19);
    }

    private static void ofSeveral(Checks checks) {
        FetchDesk alike = six(5, 5, 5, 5, 5, 5);
        Desks.remember(alike, 14, 5);
        checks.keptUrls("all alike", alike, 9, 10, 11, 12, 13, 14);
        Desks.remember(alike, 15, 5);
        checks.keptUrls("all alike again", alike, 10, 11, 12, 13, 14, 15);
        FetchDesk two = six(5, Math.nextUp(4.0), 4, 9, 4, 5);
        Desks.remember(two, 14, 5);
        checks.keptUrls("two alike, one just later", two, 8, 9, 11, 12, 13, 14);
        Desks.remember(two, 15, 5);
        checks.keptUrls("the second of the two", two, 8, 9, 11, 13, 14, 15);
        FetchDesk cut = six(10, 100, 11, 50, 10, 99);
        Desks.remember(cut, 14, 10);
        checks.keptUrls("10 seconds at most make them alike", cut, 9, 10, 11, 12, 13, 14);
        FetchDesk later = six(9, 5, 6, 7, 8, 9);
        later.tick(4);
        Desks.remember(later, 14, 2);
        checks.keptUrls("ends first, at 5", later, 8, 10, 11, 12, 13, 14);
        Desks.remember(later, 15, 5);
        checks.keptUrls("ends at 6 as another does that came before", later, 8, 11, 12, 13, 14, 15);
    }

    private static void noneComes(Checks checks) {
        FetchDesk desk = six(6, 5, 4, 7, 8, 9);
        Desks.remember(desk, 14, 0);
        checks.keptUrls("AGE 0", desk, 8, 9, 10, 11, 12, 13);
        desk.asked(14, false, 15, 15, 5);
        checks.same("ERROR 2", Checks.outcome(desk, 0, 14, 2, 0, 1, 0, 0), -2);
        checks.keptUrls("ERROR 2", desk, 8, 9, 10, 11, 12, 13);
        desk.serve(8, 307, 0, 16);
        desk.asked(16, true, 15, 15, 5);
        checks.same("UNKNOWN", Checks.outcome(desk, 0, 8, 2, 0, 1, 0, 0), 1);
        checks.same("UNKNOWN", desk.told(3), 6);
        checks.keptUrls("UNKNOWN", desk, 8, 9, 10, 11, 12, 13);
        desk.fetch(0, 9, 2, 0, 1, 0, 0);
        checks.keptUrls("REMEMBERED", desk, 8, 9, 10, 11, 12, 13);
    }

    private static void oneOfThemAgain(Checks checks) {
        FetchDesk desk = six(6, 5, 4, 7, 8, 9);
        desk.tick(5.5);
        Desks.remember(desk, 9, 5);
        checks.keptUrls("the forgotten one made room", desk, 8, 10, 11, 12, 13, 9);
        Desks.remember(desk, 10, 0);
        checks.keptUrls("with AGE 0 there are 5", desk, 8, 11, 12, 13, 9);
        Desks.remember(desk, 10, 1);
        checks.keptUrls("6 again, and none goes", desk, 8, 11, 12, 13, 9, 10);
        Desks.remember(desk, 15, 9);
        checks.keptUrls("the one that ends at 6 goes", desk, 11, 12, 13, 9, 10, 15);
    }

    private static void itsOwn(Checks checks) {
        FetchDesk desk = Desks.open(5);
        desk.fetch(0, 8, 2, 0, 1, 0, 0);
        int[][] others = {{2, 8, 0}, {5, 8, 0}, {0, 9, 0}, {0, 16, 0}, {0, 8, 2}};
        for (int i = 0; i < others.length; i++) {
            int[] a = others[i];
            desk.fetch(a[0], a[1], 2, 0, 1, a[2], 0);
            String what = "ORIGIN " + a[0] + ", URL " + a[1] + ", CREDENTIALS " + a[2];
            checks.counts(what, desk, i + 2, 0, i + 2, i + 2, 0, i + 2);
        }
        desk.fetch(0, 8, 2, 0, 1, 0, 0);
        desk.fetch(0, 8, 2, 0, 1, 1, 0);
        checks.counts("OMIT and SAME ORIGIN are both not SENT", desk, 8, 0, 8, 6, 2, 6);
    }

    private static void belowItsEnd(Checks checks) {
        FetchDesk desk = Desks.open(5);
        desk.fetch(0, 8, 2, 0, 1, 0, 0);
        desk.tick(Math.nextDown(5.0));
        desk.fetch(0, 8, 2, 0, 1, 0, 0);
        checks.counts("just before it", desk, 2, 0, 2, 1, 1, 1);
        checks.sameDouble("the end is as it was", desk.tick(5 - Math.nextDown(5.0)), 5);
        checks.same("it is there", desk.count(5), 1);
        desk.fetch(0, 8, 2, 0, 1, 0, 0);
        checks.counts("at the end itself", desk, 3, 0, 3, 2, 1, 1);
        desk.tick(6);
        desk.fetch(0, 8, 2, 0, 1, 0, 0);
        checks.counts("behind it", desk, 4, 0, 4, 3, 1, 1);
    }

    /** These METHODS and HEADERS are there, by a GET with the first HEADER: is this other REQUEST REMEMBERED? */
    private static void covers(Checks checks, String what, int methods, int headers, int method, int wanted, boolean due) {
        FetchDesk desk = Desks.open(0);
        desk.asked(8, true, methods, headers, 5);
        desk.fetch(0, 8, 0, 1, 1, 0, 0);
        desk.asked(8, true, 15, 15, 5);
        desk.fetch(0, 8, method, wanted, 1, 0, 0);
        checks.counts(what, desk, 2, 0, 2, due ? 1 : 2, due ? 1 : 0, 1);
    }

    private static void methodAndHeaders(Checks checks) {
        covers(checks, "GET, and METHODS 0", 0, 9, 0, 9, true);
        covers(checks, "POST, and METHODS 0", 0, 9, 1, 8, true);
        covers(checks, "PUT, and METHODS 0", 0, 9, 2, 0, false);
        covers(checks, "PUT in it", 4, 9, 2, 0, true);
        covers(checks, "PUT, all but it", 11, 9, 2, 0, false);
        covers(checks, "DELETE in it", 8, 9, 3, 9, true);
        covers(checks, "DELETE, all but it", 7, 9, 3, 9, false);
        covers(checks, "all HEADERS in it", 15, 15, 3, 15, true);
        covers(checks, "one HEADER more", 15, 7, 3, 15, false);
        covers(checks, "another HEADER", 15, 1, 0, 8, false);
        covers(checks, "one HEADER of them", 15, 9, 0, 8, true);
    }
}
