/** Promises 26 to 31: complaints and how they are judged, things lost and found, and which are joined. */
public final class ThingTest {
    private static final int UNKNOWN = 14640;
    private static final Check CHECK = new Check();

    private ThingTest() {
    }

    public static void main(String[] args) {
        complaints();
        judgements();
        judgementsKnown();
        likeCases();
        likeCasesOver();
        lostRefused();
        foundRefused();
        plates();
        spans();
        sorts();
        manyTrips();
        joinedOnes();
        CHECK.end();
    }

    /** A city of two corners 110 yards apart, with coaches 0 and 1 of the plates 12 and 9087 at a stand at corner 0. */
    private static HackneyStands twoCoaches() {
        HackneyStands x = Setup.row(2, 110);
        x.stand(0, 10);
        Setup.readyCoach(x, 12, 0);
        Setup.readyCoach(x, 9087, 0);
        x.go(0, 0);
        x.go(1, 0);
        return x;
    }

    private static int plate(int a, int b, int c, int d) {
        return ((a * 11 + b) * 11 + c) * 11 + d;
    }

    private static void complaints() {
        CHECK.promise("26");
        HackneyStands x = twoCoaches();
        x.call(0, 1, 1000);
        x.call(0, 1, 1000);
        CHECK.due("complain(-1, 0)", x.complain(-1, 0), -1);
        CHECK.due("complain(2, 0)", x.complain(2, 0), -1);
        CHECK.due("complain(0, -1)", x.complain(0, -1), -1);
        CHECK.due("complain(0, 1000001)", x.complain(0, 1000001), -1);
        CHECK.due("complain(1, 1000000)", x.complain(1, 1000000), 0);
        CHECK.due("complain(1, 0)", x.complain(1, 0), -4);
        CHECK.due("complain(1, -1)", x.complain(1, -1), -1);
        CHECK.due("complain(0, 0)", x.complain(0, 0), 1);
        CHECK.due("complain(0, 0)", x.complain(0, 0), -4);
        CHECK.due("count(7)", x.count(7), 2);
        CHECK.due("judged(0, 0)", x.judged(0, 0), 1);
        CHECK.due("judged(0, 1)", x.judged(0, 1), 1000000);
        CHECK.due("judged(1, 0)", x.judged(1, 0), 0);
        CHECK.due("judged(1, 1)", x.judged(1, 1), 0);
    }

    private static void judgements() {
        CHECK.promise("27");
        HackneyStands x = twoCoaches();
        x.call(0, 1, 1000);
        x.call(0, 1, 2000);
        x.complain(0, 70);
        x.complain(1, 69);
        CHECK.due("judged(0, 2) without a fare: all", x.judged(0, 2), 70);
        Setup.law(x, 0, 0, "70");
        CHECK.due("judged(0, 2), just paid", x.judged(0, 2), 0);
        CHECK.due("judged(1, 2), paid less", x.judged(1, 2), 0);
        Setup.law(x, 1, 0, "60");
        CHECK.due("judged(0, 2)", x.judged(0, 2), 10);
        CHECK.due("judged(1, 2)", x.judged(1, 2), 9);
        CHECK.due("judged(0, -1)", x.judged(0, -1), -9);
        CHECK.due("judged(0, 6)", x.judged(0, 6), -9);
        CHECK.due("judged(-1, 0)", x.judged(-1, 0), -9);
        CHECK.due("judged(2, 0)", x.judged(2, 0), -9);
        CHECK.due("judged(0, 3)", x.judged(0, 3), 0);
        CHECK.due("judged(0, 4)", x.judged(0, 4), -1);
        CHECK.due("judged(0, 5)", x.judged(0, 5), 0);
    }

    private static void judgementsKnown() {
        CHECK.promise("27, as known on the trip's own day");
        HackneyStands x = twoCoaches();
        Setup.law(x, 0, 0, "10");
        Setup.pass(x, 1440);
        x.call(0, 1, 1000);
        Setup.law(x, 0, 0, "20");
        Setup.pass(x, 1440);
        Setup.law(x, 0, 0, "30");
        x.complain(0, 100);
        CHECK.due("judged(0, 2)", x.judged(0, 2), 80);
        CHECK.due("due(0, 2, 0)", x.due(0, 2, 0), 30);
        CHECK.due("about(0, 8)", x.about(0, 8), 30);
    }

    /** Drives a trip with coach 0 from corner 0, and complains of it: the complaint's number. */
    private static int complaintOf(HackneyStands x, int to, int persons, int paid) {
        Setup.pass(x, 30);
        x.go(0, 0);
        Setup.pass(x, 30);
        return x.complain(x.call(0, to, 1000 * persons), paid);
    }

    private static void checkLike(HackneyStands x, int complaint, int like, int latest, int over) {
        CHECK.due("judged(" + complaint + ", 3)", x.judged(complaint, 3), like);
        CHECK.due("judged(" + complaint + ", 4)", x.judged(complaint, 4), latest);
        CHECK.due("judged(" + complaint + ", 5)", x.judged(complaint, 5), over);
    }

    /** Corners at 999, 1000, 1999 and 10 yards from corner 0, a stand there, and coach 0 at it. */
    private static HackneyStands starCity() {
        HackneyStands x = Setup.row(1, 1);
        int[] yards = {999, 1000, 1999, 10};
        for (int i = 0; i < yards.length; i++) {
            x.corner();
            x.street(i + 1, yards[i], 0);
        }
        x.stand(0, 5);
        Setup.readyCoach(x, 1, 0);
        return x;
    }

    private static void likeCases() {
        CHECK.promise("27, like cases");
        HackneyStands x = starCity();
        Setup.law(x, 0, 0, "100");
        Setup.pass(x, 400);
        complaintOf(x, 1, 2, 100);
        complaintOf(x, 2, 2, 101);
        complaintOf(x, 3, 2, 100);
        complaintOf(x, 4, 2, 500);
        complaintOf(x, 4, 3, 500);
        complaintOf(x, 3, 2, 500);
        checkLike(x, 0, 0, -1, 0);
        checkLike(x, 1, 0, -1, 0);
        checkLike(x, 2, 1, 1, 1);
        checkLike(x, 3, 1, 0, 0);
        checkLike(x, 4, 0, -1, 0);
        checkLike(x, 5, 2, 2, 1);
        Setup.pass(x, 1200 - x.count(8) - 60);
        complaintOf(x, 3, 2, 500);
        checkLike(x, 6, 0, -1, 0);
        Setup.pass(x, 1440 + 500 - x.count(8));
        complaintOf(x, 3, 2, 500);
        checkLike(x, 7, 0, -1, 0);
        x.go(0, -1);
        Setup.pass(x, 1440 * 7 + 500 - x.count(8));
        complaintOf(x, 2, 2, 500);
        checkLike(x, 8, 3, 5, 2);
    }

    private static void likeCasesOver() {
        CHECK.promise("27, like cases made ahead of it");
        HackneyStands x = starCity();
        Setup.law(x, 0, 0, "100");
        Setup.pass(x, 400);
        for (int i = 0; i < 4; i++) {
            x.go(0, 0);
            x.minutes(1);
            x.call(0, 4, 1000);
            x.minutes(30);
        }
        // The order of the complaints counts, not that of the trips.
        x.complain(3, 101);
        x.complain(0, 100);
        x.complain(2, 1000);
        x.complain(1, 1000);
        checkLike(x, 0, 0, -1, 0);
        checkLike(x, 1, 1, 0, 1);
        checkLike(x, 2, 2, 1, 1);
        checkLike(x, 3, 3, 2, 2);
    }

    private static void lostRefused() {
        CHECK.promise("28");
        HackneyStands x = new HackneyStands();
        int[][] wrong = {
            {-1, 0, 0, 0}, {10, 0, 0, 0}, {0, -1, 0, 0}, {0, 14641, 0, 0},
            {0, 0, -1, 0}, {0, 0, 1, 0}, {0, 0, 0, 720000}, {0, 0, 720000, 720000},
        };
        for (int[] row : wrong) {
            String call = "lost(" + row[0] + ", " + row[1] + ", " + row[2] + ", " + row[3] + ")";
            CHECK.due(call, x.lost(row[0], row[1], row[2], row[3]), -1);
        }
        CHECK.due("fits(-1)", x.fits(-1), -1);
        CHECK.due("joined(-1)", x.joined(-1), -1);
        for (int i = 0; i < 60; i++) {
            CHECK.due("fits(" + i + ") ahead", x.fits(i), -1);
            CHECK.due("joined(" + i + ") ahead", x.joined(i), -1);
            CHECK.due("lost(9, 14640, 0, 719999)", x.lost(9, UNKNOWN, 0, 719999), i);
            CHECK.due("fits(" + i + ")", x.fits(i), 0);
            CHECK.due("joined(" + i + ")", x.joined(i), -9);
        }
        CHECK.due("the 61st", x.lost(0, 0, 0, 0), -2);
        CHECK.due("a wrong 61st", x.lost(10, 0, 0, 0), -1);
        CHECK.due("count(10)", x.count(10), 60);
    }

    private static void foundRefused() {
        CHECK.promise("29");
        HackneyStands x = twoCoaches();
        CHECK.due("found(-1, 0)", x.found(-1, 0), -1);
        CHECK.due("found(10, 0)", x.found(10, 0), -1);
        CHECK.due("found(0, -1)", x.found(0, -1), -1);
        CHECK.due("found(0, 2)", x.found(0, 2), -1);
        for (int i = 0; i < 60; i++) {
            CHECK.due("found(9, 1)", x.found(9, 1), i);
        }
        CHECK.due("the 61st", x.found(0, 0), -2);
        CHECK.due("a wrong 61st", x.found(0, 2), -1);
        CHECK.due("count(11)", x.count(11), 60);
    }

    private static void plates() {
        CHECK.promise("31, plates");
        HackneyStands x = twoCoaches();
        x.call(0, 1, 1000);
        x.call(0, 1, 1000);
        x.found(0, 0);
        x.found(0, 1);
        int[][] told = {
            {0, 0, 1, 2, 1}, {0, 0, 2, 1, 0}, {10, 10, 10, 10, 2}, {10, 0, 10, 10, 2}, {0, 10, 10, 10, 1},
            {9, 0, 8, 7, 1}, {9, 10, 10, 7, 1}, {9, 0, 8, 6, 0}, {9, 0, 7, 7, 0}, {9, 1, 8, 7, 0}, {8, 0, 8, 7, 0},
            {10, 10, 1, 10, 1}, {10, 10, 10, 7, 1}, {10, 10, 10, 3, 0}, {0, 0, 10, 10, 1}, {1, 2, 10, 10, 0},
        };
        for (int i = 0; i < told.length; i++) {
            x.lost(0, plate(told[i][0], told[i][1], told[i][2], told[i][3]), 0, 0);
            CHECK.due("fits(" + i + ")", x.fits(i), told[i][4]);
        }
    }

    private static void spans() {
        CHECK.promise("31, spans");
        HackneyStands x = twoCoaches();
        x.minutes(100);
        // From minute 100 on, 1 minute of the way and 20 of waiting: 121 is not counted.
        x.call(0, 1, 1020);
        x.minutes(50);
        x.found(0, 0);
        int[][] told = {
            {0, 99, 0}, {0, 100, 1}, {100, 100, 1}, {120, 120, 1}, {120, 300, 1}, {121, 121, 0}, {121, 300, 0},
            {110, 112, 1}, {0, 719999, 1}, {99, 99, 0},
        };
        for (int i = 0; i < told.length; i++) {
            x.lost(0, UNKNOWN, told[i][0], told[i][1]);
            CHECK.due("fits(" + i + ")", x.fits(i), told[i][2]);
        }
        // The minute in which it was found is not ahead of the span: in it, or behind it.
        HackneyStands y = twoCoaches();
        y.minutes(10);
        y.found(0, 0);
        y.call(0, 1, 1100);
        y.lost(0, UNKNOWN, 10, 50);
        y.lost(0, UNKNOWN, 11, 50);
        CHECK.due("fits(0)", y.fits(0), 1);
        CHECK.due("fits(1)", y.fits(1), 0);
        y.minutes(1);
        y.found(0, 0);
        CHECK.due("fits(0)", y.fits(0), 2);
        CHECK.due("fits(1)", y.fits(1), 1);
    }

    private static void sorts() {
        CHECK.promise("31, sorts");
        HackneyStands x = twoCoaches();
        x.call(0, 1, 1000);
        x.found(3, 0);
        x.found(3, 1);
        x.lost(3, UNKNOWN, 0, 0);
        x.lost(4, UNKNOWN, 0, 0);
        CHECK.due("fits(0): the other was on no trip", x.fits(0), 1);
        CHECK.due("fits(1): another sort", x.fits(1), 0);
        CHECK.due("joined(0)", x.joined(0), 0);
        CHECK.due("joined(1)", x.joined(1), -9);
        CHECK.due("fits(2)", x.fits(2), -1);
        CHECK.due("joined(2)", x.joined(2), -1);
    }

    private static void manyTrips() {
        CHECK.promise("31, several trips");
        HackneyStands x = twoCoaches();
        x.call(0, 1, 1000);
        x.minutes(10);
        x.go(0, 0);
        x.minutes(10);
        x.go(1, -1);
        x.call(0, 1, 1005);
        x.minutes(30);
        x.found(0, 0);
        x.lost(0, UNKNOWN, 0, 0);
        x.lost(0, UNKNOWN, 1, 19);
        x.lost(0, UNKNOWN, 20, 20);
        x.lost(0, UNKNOWN, 25, 25);
        x.lost(0, UNKNOWN, 26, 26);
        int[] fits = {1, 0, 1, 1, 0};
        for (int i = 0; i < fits.length; i++) {
            CHECK.due("fits(" + i + ")", x.fits(i), fits[i]);
        }
    }

    private static void joinedOnes() {
        CHECK.promise("30");
        HackneyStands x = twoCoaches();
        x.call(0, 1, 1000);
        x.call(0, 1, 1000);
        x.lost(0, plate(0, 0, 1, 2), 0, 0);
        CHECK.due("joined(0), nothing found", x.joined(0), -9);
        x.found(0, 1);
        CHECK.due("joined(0), another's", x.joined(0), -9);
        x.found(0, 0);
        CHECK.due("joined(0)", x.joined(0), 1);
        // A second lost one that the found one fits parts them; one that only another fits does not.
        x.lost(0, plate(9, 0, 8, 7), 0, 0);
        CHECK.due("joined(0)", x.joined(0), 1);
        CHECK.due("joined(1)", x.joined(1), 0);
        x.lost(0, plate(10, 0, 8, 10), 0, 0);
        CHECK.due("joined(0)", x.joined(0), 1);
        CHECK.due("joined(1)", x.joined(1), -9);
        CHECK.due("joined(2)", x.joined(2), -9);
        CHECK.due("fits(1)", x.fits(1), 1);
        CHECK.due("fits(2)", x.fits(2), 1);
        // A second found one that fits it parts it, too.
        x.found(0, 0);
        CHECK.due("joined(0)", x.joined(0), -9);
        CHECK.due("fits(0)", x.fits(0), 2);
        HackneyStands y = twoCoaches();
        y.call(0, 1, 1000);
        y.found(0, 0);
        y.lost(0, UNKNOWN, 0, 0);
        CHECK.due("joined(0)", y.joined(0), 0);
        y.found(0, 0);
        CHECK.due("joined(0), found 0 and 1 fit", y.joined(0), -9);
    }
}
