/** What many tests begin with. */
final class Setup {
    private Setup() {
    }

    /** A new city with corners 0 .. n - 1, each a street of told yards away from the next one. */
    static HackneyStands row(int n, int yards) {
        HackneyStands x = new HackneyStands();
        for (int i = 0; i < n; i++) {
            x.corner();
            if (i > 0) {
                x.street(100 * (i - 1) + i, yards, 0);
            }
        }
        return x;
    }

    /** A new coach at home at a corner, with a licence of the years 0 and 1, looked at for good. */
    static int readyCoach(HackneyStands x, int plate, int home) {
        int coach = x.coach(plate, home);
        x.licence(coach, 0, 0);
        x.licence(coach, 1, 0);
        x.look(coach, 9999);
        return coach;
    }

    static int feed(HackneyStands x, String text) {
        int fed = x.count(9);
        for (int i = 0; i < text.length(); i++) {
            fed = x.feed(1, text.charAt(i));
        }
        return fed;
    }

    static int law(HackneyStands x, int kind, int from, String text) {
        feed(x, text);
        return x.law(kind, from);
    }

    /** Lets many minutes go by. */
    static void pass(HackneyStands x, int minutes) {
        int left = minutes;
        while (left > 0) {
            int now = Math.min(left, 1440);
            x.minutes(now);
            left -= now;
        }
    }
}
