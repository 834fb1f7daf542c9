/** Promise 7 where a RESOURCE is to be ASKED: when that is, what must hold, what is remembered. */
public final class AskingTest {
    public static void main(String[] args) {
        Checks checks = new Checks("asking");
        whenItIsAsked(checks);
        whatMustHold(checks);
        itMustPass(checks);
        rememberedForItsOwn(checks);
        rememberedTillItsEnd(checks);
        rememberedAsAnswered(checks);
        forgottenWhenAskedAgain(checks);
        tenSecondsAtMost(checks);
        sixAtMost(checks);
        firstOfSeveralGoes(checks);
        forgettingMakesRoom(checks);
        unknownIsNotRemembered(checks);
        rememberedMustStillPass(checks);
        askedInEveryRound(checks);
        checks.end();
    }

    private static void whenItIsAsked(Checks checks) {
        for (int method = 0; method < 4; method++) {
            for (int headers = 0; headers < 16; headers++) {
                FetchDesk desk = Desks.open(0);
                checks.same("fetch", Checks.outcome(desk, 0, 8, method, headers, 1, 0, 0), 1);
                int times = method > 1 || headers > 0 ? 1 : 0;
                checks.counts("method " + method + ", headers " + headers, desk, 1, 0, 1, times, 0, 0);
            }
        }
    }

    private static void whatMustHold(Checks checks) {
        FetchDesk desk = new FetchDesk();
        int calls = 0;
        for (int bits = 0; bits < 16; bits++) {
            for (int number = 1; number < 16; number++) {
                calls += 6;
                if (calls > 500 || bits == 0 && number == 1) {
                    desk = new FetchDesk();
                    desk.allow(8, 1, false);
                    calls = 7;
                }
                desk.asked(8, true, 0, bits, 0);
                checks.same("headers " + number + " with " + bits, Checks.outcome(desk, 0, 8, number % 2, number, 1, 0, 0),
                        (number & ~bits) == 0 ? 1 : -2);
                int method = number % 4;
                desk.asked(8, true, bits, 1, 0);
                boolean good = method < 2 || (bits >> method & 1) == 1;
                checks.same("method " + method + " with " + bits, Checks.outcome(desk, 0, 8, method, 1, 1, 0, 0), good ? 1 : -2);
            }
        }
        FetchDesk closed = Desks.open(5);
        closed.asked(8, false, 15, 15, 5);
        checks.same("not OK", Checks.outcome(closed, 0, 8, 2, 1, 1, 2, 0), -2);
        checks.told("not OK", closed, 2, 1, 8, 0, 2, 1, 0, 0, 0, 0);
        checks.counts("not OK", closed, 1, 1, 0, 1, 0, 0);
    }

    private static void itMustPass(Checks checks) {
        FetchDesk desk = Desks.open(5);
        desk.allow(8, 254, false);
        checks.same("all, not sent", Checks.outcome(desk, 0, 8, 2, 0, 1, 1, 0), 1);
        checks.same("all, sent", Checks.outcome(desk, 0, 8, 2, 0, 1, 2, 0), -2);
        desk.allow(8, 1, false);
        checks.same("named, credentials not allowed", Checks.outcome(desk, 0, 8, 2, 0, 1, 2, 0), -2);
        desk.allow(8, 1, true);
        checks.same("named, credentials allowed", Checks.outcome(desk, 0, 8, 2, 0, 1, 2, 0), 1);
        desk.allow(9, 2, true);
        checks.same("another is named", Checks.outcome(desk, 0, 9, 2, 0, 1, 0, 0), -2);
        checks.counts("passing", desk, 5, 3, 2, 5, 0, 2);
    }

    private static void rememberedForItsOwn(Checks checks) {
        FetchDesk desk = Desks.open(5);
        desk.fetch(0, 8, 2, 0, 1, 0, 0);
        desk.fetch(0, 8, 2, 0, 1, 1, 0);
        checks.counts("omit and far same origin are one", desk, 2, 0, 2, 1, 1, 1);
        desk.fetch(0, 8, 2, 0, 1, 2, 0);
        checks.counts("with credentials it is another", desk, 3, 0, 3, 2, 1, 2);
        desk.fetch(2, 8, 2, 0, 1, 0, 0);
        checks.counts("of another origin it is another", desk, 4, 0, 4, 3, 1, 3);
        desk.fetch(0, 9, 2, 0, 1, 0, 0);
        checks.counts("of another URL it is another", desk, 5, 0, 5, 4, 1, 4);
        desk.fetch(0, 8, 1, 0, 1, 0, 0);
        checks.counts("what needs no asking is not remembered", desk, 6, 0, 6, 4, 1, 4);
        desk.fetch(1, 8, 3, 1, 1, 0, 0);
        checks.counts("neither is what is near", desk, 7, 0, 7, 4, 1, 4);
    }

    private static void rememberedTillItsEnd(Checks checks) {
        FetchDesk desk = Desks.open(5);
        desk.fetch(0, 8, 2, 0, 1, 0, 0);
        desk.tick(4.999);
        desk.fetch(0, 8, 2, 0, 1, 0, 0);
        checks.counts("before the end", desk, 2, 0, 2, 1, 1, 1);
        FetchDesk other = Desks.open(5);
        other.fetch(0, 8, 2, 0, 1, 0, 0);
        other.tick(5);
        checks.same("it stays after its end", other.count(5), 1);
        other.fetch(0, 8, 2, 0, 1, 0, 0);
        checks.counts("at the end", other, 2, 0, 2, 2, 0, 1);
        checks.sameDouble("anew", other.left(0), 5);
    }

    private static void rememberedAsAnswered(Checks checks) {
        FetchDesk desk = Desks.open(5);
        desk.asked(8, true, 4, 6, 5);
        desk.fetch(0, 8, 2, 0, 1, 0, 0);
        desk.fetch(0, 8, 2, 6, 1, 0, 0);
        desk.fetch(0, 8, 0, 2, 1, 0, 0);
        desk.fetch(0, 8, 1, 4, 1, 0, 0);
        checks.counts("what it covers", desk, 4, 0, 4, 1, 3, 1);
        desk.asked(8, true, 8, 9, 5);
        desk.fetch(0, 8, 2, 2, 1, 0, 0);
        checks.counts("it is as it was answered", desk, 5, 0, 5, 1, 4, 1);
        desk.fetch(0, 8, 1, 1, 1, 0, 0);
        checks.counts("a header that it does not cover", desk, 6, 0, 6, 2, 4, 1);
        checks.kept("asked anew", desk, 0, 0, 8, 0, 8, 9, 1);
        desk.asked(8, true, 4, 9, 5);
        desk.fetch(0, 8, 2, 1, 1, 0, 0);
        checks.counts("a method that it does not cover", desk, 7, 0, 7, 3, 4, 1);
        checks.kept("asked once more", desk, 0, 0, 8, 0, 4, 9, 1);
    }

    private static void forgottenWhenAskedAgain(Checks checks) {
        FetchDesk desk = Desks.open(5);
        desk.asked(8, true, 4, 0, 5);
        desk.fetch(0, 8, 2, 0, 1, 0, 0);
        desk.fetch(0, 9, 2, 0, 1, 0, 0);
        desk.fetch(0, 8, 2, 0, 1, 2, 0);
        checks.same("DELETE is refused", Checks.outcome(desk, 0, 8, 3, 0, 1, 0, 0), -2);
        checks.keptUrls("that one alone is forgotten", desk, 9, 8);
        checks.kept("the one with credentials stays", desk, 1, 0, 8, 1, 4, 0, 1);
        desk.fetch(0, 8, 2, 0, 1, 0, 0);
        checks.keptUrls("it comes last again", desk, 9, 8, 8);
        checks.kept("it comes last again", desk, 2, 0, 8, 0, 4, 0, 1);
        desk.allow(9, 0, false);
        checks.same("not passed", Checks.outcome(desk, 0, 9, 2, 0, 1, 0, 0), -3);
        desk.tick(6);
        checks.same("not passed when asked", Checks.outcome(desk, 0, 9, 2, 0, 1, 0, 0), -2);
        checks.keptUrls("forgotten though it did not pass", desk, 8, 8);
        desk.asked(8, true, 4, 0, 0);
        checks.same("asked with age 0", Checks.outcome(desk, 0, 8, 2, 0, 1, 2, 0), 1);
        checks.keptUrls("forgotten with age 0", desk, 8);
    }

    private static void tenSecondsAtMost(Checks checks) {
        double[] ages = {0.125, 9.875, 10, 10.125, 100};
        for (double age : ages) {
            FetchDesk desk = Desks.open(0);
            desk.tick(2);
            desk.asked(8, true, 15, 15, age);
            desk.fetch(0, 8, 2, 0, 1, 0, 0);
            checks.sameDouble("left of " + age, desk.left(0), age < 10 ? age : 10);
        }
    }

    private static void sixAtMost(Checks checks) {
        FetchDesk desk = Desks.open(0);
        double[] ages = {5, 6, 7, 2, 8, 9};
        for (int i = 0; i < 6; i++) {
            Desks.remember(desk, 8 + i, ages[i]);
        }
        checks.keptUrls("six", desk, 8, 9, 10, 11, 12, 13);
        desk.tick(3);
        checks.keptUrls("the ended one stays", desk, 8, 9, 10, 11, 12, 13);
        Desks.remember(desk, 14, 1);
        checks.keptUrls("the one that ends first goes", desk, 8, 9, 10, 12, 13, 14);
        Desks.remember(desk, 15, 10);
        checks.keptUrls("even if it is the youngest", desk, 8, 9, 10, 12, 13, 15);
        Desks.remember(desk, 16, 10);
        checks.keptUrls("or the oldest", desk, 9, 10, 12, 13, 15, 16);
    }

    private static void firstOfSeveralGoes(Checks checks) {
        FetchDesk desk = Desks.open(0);
        double[] ages = {9, 4, 9, 4, 4, 9};
        for (int i = 0; i < 6; i++) {
            Desks.remember(desk, 8 + i, ages[i]);
        }
        Desks.remember(desk, 14, 8);
        checks.keptUrls("the first of those that end together", desk, 8, 10, 11, 12, 13, 14);
        Desks.remember(desk, 15, 8);
        checks.keptUrls("then the second", desk, 8, 10, 12, 13, 14, 15);
    }

    private static void forgettingMakesRoom(Checks checks) {
        FetchDesk desk = Desks.open(0);
        for (int i = 0; i < 6; i++) {
            Desks.remember(desk, 8 + i, 4 + i);
        }
        desk.tick(9.5);
        Desks.remember(desk, 10, 7);
        checks.keptUrls("none of the others goes", desk, 8, 9, 11, 12, 13, 10);
        for (int i = 0; i < 6; i++) {
            int end = new int[] {4, 5, 7, 8, 9, 16}[i];
            checks.sameDouble("left(" + i + ")", desk.left(i), end == 16 ? 7 : 0);
        }
    }

    private static void unknownIsNotRemembered(Checks checks) {
        FetchDesk desk = Desks.open(5);
        desk.serve(8, 307, 0, 16);
        desk.fetch(0, 8, 2, 1, 1, 0, 0);
        checks.told("led to an unknown origin", desk, 0, 2, 16, 6, 2);
        checks.keptUrls("the first round alone is remembered", desk, 8);
        checks.counts("both were asked", desk, 1, 0, 2, 2, 0, 1);
        desk.fetch(0, 8, 2, 1, 1, 0, 0);
        checks.counts("the unknown one is asked again", desk, 2, 0, 4, 3, 1, 1);
        desk.fetch(0, 16, 2, 1, 1, 0, 0);
        checks.keptUrls("the known one is remembered there", desk, 8, 16);
        desk.fetch(0, 8, 2, 1, 1, 0, 0);
        checks.counts("that is nothing to the unknown one", desk, 4, 0, 7, 5, 2, 2);
        desk.allow(16, 63, true);
        checks.same("the unknown one is not allowed", Checks.outcome(desk, 0, 8, 2, 1, 1, 0, 0), -2);
        checks.keptUrls("others' are not forgotten by it", desk, 8, 16);
    }

    private static void rememberedMustStillPass(Checks checks) {
        FetchDesk desk = Desks.open(5);
        desk.fetch(0, 8, 2, 1, 1, 2, 0);
        desk.allow(8, 1, false);
        checks.same("not allowed any more", Checks.outcome(desk, 0, 8, 2, 1, 1, 2, 0), -3);
        checks.counts("it was requested", desk, 2, 1, 2, 1, 1, 1);
    }

    private static void askedInEveryRound(Checks checks) {
        FetchDesk desk = Desks.open(5);
        desk.serve(8, 308, 0, 9);
        desk.serve(9, 307, 0, 8);
        checks.same("round and round", Checks.outcome(desk, 0, 8, 3, 1, 1, 0, 0), -5);
        checks.counts("round and round", desk, 1, 1, 5, 2, 3, 2);
        checks.keptUrls("round and round", desk, 8, 9);
        desk.serve(9, 303, 0, 10);
        checks.same("no asking after a 303", Checks.outcome(desk, 0, 8, 3, 1, 1, 0, 0), 1);
        checks.counts("no asking after a 303", desk, 2, 1, 8, 2, 5, 2);
    }
}
