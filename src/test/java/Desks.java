/** Desks and numbers with which the tests of boundary cases begin. */
final class Desks {
    static final int[] WRONG_URLS = {Integer.MIN_VALUE, -1, 48, Integer.MAX_VALUE};
    static final int[] WRONG_FOUR_BITS = {Integer.MIN_VALUE, -1, 16, Integer.MAX_VALUE};

    private Desks() { }

    /** Every RESOURCE ALLOWS each ORIGIN by name, with CREDENTIALS, and lets all METHODS and HEADERS for this AGE. */
    static FetchDesk open(double age) {
        FetchDesk desk = new FetchDesk();
        for (int url = 0; url < 48; url++) {
            desk.allow(url, 127, true);
            desk.asked(url, true, 15, 15, age);
        }
        return desk;
    }

    /** ORIGIN 0 is led through its own URLS so that the ROUND of this number is at last; the URL to begin with. */
    static int lead(FetchDesk desk, int rounds, int last) {
        for (int i = 0; i < rounds - 1; i++) {
            desk.serve(i, 307, 0, i == rounds - 2 ? last : i + 1);
        }
        return rounds == 1 ? last : 0;
    }

    /** Runs a REQUEST with PUT from ORIGIN 0 that is ASKED for, so that the answer may be remembered. */
    static void remember(FetchDesk desk, int url, double age) {
        desk.asked(url, true, 15, 15, age);
        desk.fetch(0, url, 2, 0, 1, 0, 0);
    }
}
