/** Promises 9 to 15 and 22: coaches, licences, stands, and what they do while minutes go by. */
public final class CoachTest {
    private static final int RESTS = 0, STANDS = 1, GOES = 2, DRIVES = 3, WAITS = 4;
    private static final Check CHECK = new Check();

    private CoachTest() {
    }

    public static void main(String[] args) {
        coaches();
        licences();
        manyLicences();
        looks();
        stands();
        goingRefused();
        goingAtOnce();
        going();
        goingHome();
        abouts();
        rows();
        arrivals();
        strengths();
        minutes();
        CHECK.end();
    }

    /** Checks state, corner, arrival and stand of a coach. */
    private static void checkCoach(HackneyStands x, int coach, int... facts) {
        int[] whats = {0, 1, 3, 4};
        for (int i = 0; i < whats.length; i++) {
            CHECK.due("about(" + coach + ", " + whats[i] + ")", x.about(coach, whats[i]), facts[i]);
        }
    }

    private static void checkRow(HackneyStands x, int stand, int... coaches) {
        for (int i = 0; i < coaches.length; i++) {
            CHECK.due("turn(" + stand + ", " + i + ")", x.turn(stand, i), coaches[i]);
        }
        CHECK.due("turn(" + stand + ", " + coaches.length + ")", x.turn(stand, coaches.length), -1);
    }

    private static void coaches() {
        CHECK.promise("9");
        HackneyStands x = Setup.row(2, 100);
        CHECK.due("coach(0, 0)", x.coach(0, 0), -1);
        CHECK.due("coach(10000, 0)", x.coach(10000, 0), -1);
        CHECK.due("coach(1, -1)", x.coach(1, -1), -1);
        CHECK.due("coach(1, 2)", x.coach(1, 2), -1);
        CHECK.due("coach(9999, 1)", x.coach(9999, 1), 0);
        CHECK.due("coach(9999, 0)", x.coach(9999, 0), -4);
        CHECK.due("coach(9999, 2)", x.coach(9999, 2), -1);
        for (int i = 1; i < 30; i++) {
            CHECK.due("coach(i, 0)", x.coach(i, 0), i);
        }
        CHECK.due("the 31st coach", x.coach(500, 0), -2);
        CHECK.due("the 31st coach with a plate there", x.coach(9999, 0), -4);
        CHECK.due("a wrong 31st coach", x.coach(0, 0), -1);
        CHECK.due("count(2)", x.count(2), 30);
        checkCoach(x, 0, RESTS, 1, -1, -1);
        CHECK.due("about(0, 2)", x.about(0, 2), 1000);
        CHECK.due("about(0, 6)", x.about(0, 6), -1);
    }

    private static void licences() {
        CHECK.promise("10");
        HackneyStands x = Setup.row(1, 1);
        x.coach(1, 0);
        x.coach(2, 0);
        CHECK.due("licence(-1, 0, 0)", x.licence(-1, 0, 0), -1);
        CHECK.due("licence(2, 0, 0)", x.licence(2, 0, 0), -1);
        CHECK.due("licence(0, -1, 0)", x.licence(0, -1, 0), -1);
        CHECK.due("licence(0, 2000, 0)", x.licence(0, 2000, 0), -1);
        CHECK.due("licence(0, 0, -1)", x.licence(0, 0, -1), -1);
        CHECK.due("licence(0, 0, 50)", x.licence(0, 0, 50), -1);
        CHECK.due("about(0, 5) without any", x.about(0, 5), -1);
        CHECK.due("licence(0, 0, 49)", x.licence(0, 0, 49), 1);
        CHECK.due("licence(0, 0, 49) again", x.licence(0, 0, 49), -4);
        CHECK.due("licence(0, 0, 3)", x.licence(0, 0, 3), -4);
        CHECK.due("licence(0, 0, 50)", x.licence(0, 0, 50), -1);
        CHECK.due("licence(1, 0, 49)", x.licence(1, 0, 49), 1);
        CHECK.due("licence(0, 1, 0)", x.licence(0, 1, 0), 1);
        CHECK.due("licence(0, 1, 5), there is one of person 0", x.licence(0, 1, 5), -4);
        CHECK.due("licence(0, 1999, 7)", x.licence(0, 1999, 7), 1);
        CHECK.due("about(0, 5)", x.about(0, 5), 49);
        CHECK.due("count(12)", x.count(12), 4);
        Setup.pass(x, 359 * 1440);
        CHECK.due("about(0, 5) on day 359", x.about(0, 5), 49);
        x.minutes(1440);
        CHECK.due("about(0, 5) on day 360", x.about(0, 5), 0);
        CHECK.due("about(1, 5) on day 360", x.about(1, 5), -1);
    }

    private static void manyLicences() {
        CHECK.promise("10, 200 of them");
        HackneyStands x = Setup.row(1, 1);
        x.coach(1, 0);
        for (int year = 0; year < 200; year++) {
            CHECK.due("licence(0, year, 1)", x.licence(0, year, 1), 1);
        }
        CHECK.due("the 201st", x.licence(0, 200, 1), -2);
        CHECK.due("one that is there", x.licence(0, 199, 1), -4);
        CHECK.due("a wrong one", x.licence(0, 200, 50), -1);
        CHECK.due("count(12)", x.count(12), 200);
    }

    private static void looks() {
        CHECK.promise("11");
        HackneyStands x = Setup.row(1, 1);
        x.coach(1, 0);
        Setup.pass(x, 1440 * 3);
        CHECK.due("look(-1, 5)", x.look(-1, 5), -9);
        CHECK.due("look(1, 5)", x.look(1, 5), -9);
        CHECK.due("look(0, 2)", x.look(0, 2), -9);
        CHECK.due("look(0, 10000)", x.look(0, 10000), -9);
        CHECK.due("about(0, 6)", x.about(0, 6), -1);
        CHECK.due("look(0, 9999)", x.look(0, 9999), -1);
        CHECK.due("look(0, 3)", x.look(0, 3), 9999);
        CHECK.due("about(0, 6)", x.about(0, 6), 3);
        CHECK.due("look(0, 4)", x.look(0, 4), 3);
    }

    private static void stands() {
        CHECK.promise("12");
        HackneyStands x = Setup.row(2, 1);
        CHECK.due("stand(-1, 1)", x.stand(-1, 1), -1);
        CHECK.due("stand(2, 1)", x.stand(2, 1), -1);
        CHECK.due("stand(0, 0)", x.stand(0, 0), -1);
        CHECK.due("stand(0, 11)", x.stand(0, 11), -1);
        for (int i = 0; i < 12; i++) {
            CHECK.due("stand(1, 10)", x.stand(1, 10), i);
        }
        CHECK.due("the 13th stand", x.stand(0, 1), -2);
        CHECK.due("a wrong 13th stand", x.stand(0, 11), -1);
        CHECK.due("count(3)", x.count(3), 12);
    }

    private static void goingRefused() {
        CHECK.promise("13, refused");
        HackneyStands x = Setup.row(2, 220);
        x.corner();
        x.stand(0, 2);
        x.stand(1, 2);
        x.stand(2, 2);
        x.coach(1, 0);
        CHECK.due("go(-1, 0)", x.go(-1, 0), -1);
        CHECK.due("go(1, 0)", x.go(1, 0), -1);
        CHECK.due("go(0, -2)", x.go(0, -2), -1);
        CHECK.due("go(0, 3)", x.go(0, 3), -1);
        CHECK.due("go(0, 2)", x.go(0, 2), -5);
        checkCoach(x, 0, RESTS, 0, -1, -1);
        x.go(0, 0);
        CHECK.due("go(0, 0) where it stands", x.go(0, 0), -3);
        CHECK.due("go(0, 2)", x.go(0, 2), -5);
        checkRow(x, 0, 0);
        CHECK.due("go(0, 1)", x.go(0, 1), 2);
        CHECK.due("go(0, 0) on its way", x.go(0, 0), -3);
        CHECK.due("go(0, 1) on its way", x.go(0, 1), -3);
        CHECK.due("go(0, 2) on its way", x.go(0, 2), -3);
        CHECK.due("go(0, -1) on its way", x.go(0, -1), -3);
        CHECK.due("go(0, 3) on its way", x.go(0, 3), -1);
        x.shut(0, 5, 100);
        Setup.pass(x, 5);
        checkCoach(x, 0, STANDS, 1, -1, 1);
        CHECK.due("go(0, 0), shut", x.go(0, 0), -5);
        CHECK.due("go(0, -1), shut", x.go(0, -1), -5);
        checkRow(x, 1, 0);
        Setup.pass(x, 95);
        CHECK.due("go(0, -1), open again", x.go(0, -1), 2);
        checkCoach(x, 0, GOES, 0, 102, -1);
    }

    private static void goingAtOnce() {
        CHECK.promise("13, there already");
        HackneyStands x = Setup.row(2, 110);
        x.stand(0, 2);
        x.stand(0, 1);
        for (int i = 0; i < 4; i++) {
            x.coach(i + 1, 0);
        }
        CHECK.due("go(0, -1)", x.go(0, -1), 0);
        checkCoach(x, 0, RESTS, 0, -1, -1);
        CHECK.due("go(2, 0)", x.go(2, 0), 0);
        CHECK.due("go(1, 0)", x.go(1, 0), 0);
        CHECK.due("go(0, 0)", x.go(0, 0), 0);
        checkRow(x, 0, 2, 1);
        checkCoach(x, 0, WAITS, 0, -1, -1);
        CHECK.due("go(0, 0), full again", x.go(0, 0), 0);
        checkCoach(x, 0, WAITS, 0, -1, -1);
        CHECK.due("go(2, 1), another stand", x.go(2, 1), 0);
        checkCoach(x, 2, STANDS, 0, -1, 1);
        checkRow(x, 0, 1);
        CHECK.due("go(0, 0), behind", x.go(0, 0), 0);
        checkRow(x, 0, 1, 0);
        CHECK.due("go(1, 1), full", x.go(1, 1), 0);
        checkCoach(x, 1, WAITS, 0, -1, -1);
        checkRow(x, 0, 0);
        CHECK.due("go(0, -1)", x.go(0, -1), 0);
        checkCoach(x, 0, RESTS, 0, -1, -1);
        checkRow(x, 0);
    }

    private static void going() {
        CHECK.promise("13, by its way");
        HackneyStands x = Setup.row(3, 110);
        x.stand(2, 3);
        x.coach(1, 0);
        x.coach(2, 1);
        CHECK.due("go(0, 0)", x.go(0, 0), 2);
        checkCoach(x, 0, GOES, 2, 2, 0);
        x.minutes(1);
        CHECK.due("go(1, 0)", x.go(1, 0), 1);
        checkRow(x, 0);
        x.minutes(1);
        // Both are there in the same minute: by their numbers.
        checkRow(x, 0, 0, 1);
        checkCoach(x, 0, STANDS, 2, -1, 0);
        HackneyStands y = Setup.row(2, 111);
        y.stand(1, 1);
        y.coach(1, 0);
        CHECK.due("111 yards", y.go(0, 0), 2);
        // A street that is shut later doesn't stop what goes already.
        y.shut(0, 1, 1000);
        y.minutes(2);
        checkCoach(y, 0, STANDS, 1, -1, 0);
    }

    private static void goingHome() {
        CHECK.promise("13, home");
        HackneyStands x = Setup.row(2, 330);
        x.stand(1, 1);
        x.coach(1, 0);
        x.coach(2, 0);
        x.go(1, 0);
        x.go(0, 0);
        x.minutes(3);
        checkCoach(x, 0, STANDS, 1, -1, 0);
        checkCoach(x, 1, WAITS, 1, -1, -1);
        CHECK.due("go(1, -1)", x.go(1, -1), 3);
        checkCoach(x, 1, GOES, 0, 6, -1);
        CHECK.due("go(0, -1)", x.go(0, -1), 3);
        checkRow(x, 0);
        x.minutes(2);
        checkCoach(x, 1, GOES, 0, 6, -1);
        x.minutes(1);
        checkCoach(x, 1, RESTS, 0, -1, -1);
        x.stand(0, 1);
        x.coach(3, 1);
        CHECK.due("go(2, 1)", x.go(2, 1), 3);
        x.minutes(3);
        CHECK.due("go(2, -1)", x.go(2, -1), 3);
        checkCoach(x, 2, GOES, 1, 12, -1);
        x.minutes(3);
        checkCoach(x, 2, RESTS, 1, -1, -1);
    }

    private static void abouts() {
        CHECK.promise("14");
        HackneyStands x = Setup.row(3, 110);
        x.stand(0, 1);
        Setup.readyCoach(x, 7, 0);
        x.coach(8, 2);
        x.go(0, 0);
        CHECK.due("about(0, -1)", x.about(0, -1), -9);
        CHECK.due("about(0, 9)", x.about(0, 9), -9);
        CHECK.due("about(-1, 0)", x.about(-1, 0), -9);
        CHECK.due("about(2, 0)", x.about(2, 0), -9);
        CHECK.due("about(0, 7)", x.about(0, 7), 0);
        CHECK.due("about(0, 8)", x.about(0, 8), 0);
        CHECK.due("call(1, 2, 3007)", x.call(1, 2, 3007), 0);
        checkCoach(x, 0, DRIVES, 2, 9, -1);
        CHECK.due("about(0, 7)", x.about(0, 7), 1);
        CHECK.due("about(0, 8) without a fare", x.about(0, 8), 0);
        Setup.law(x, 0, 0, "0");
        CHECK.due("about(0, 8) of a fare of 0", x.about(0, 8), 0);
        Setup.law(x, 0, 0, "p*100+y");
        CHECK.due("about(0, 8)", x.about(0, 8), 410);
        Setup.pass(x, 1440);
        checkCoach(x, 0, WAITS, 2, -1, -1);
        x.go(0, 0);
        Setup.pass(x, 2);
        x.call(1, 0, 1000);
        CHECK.due("about(0, 7)", x.about(0, 7), 2);
        CHECK.due("about(0, 8)", x.about(0, 8), 620);
        CHECK.due("about(1, 7)", x.about(1, 7), 0);
        CHECK.due("about(1, 8)", x.about(1, 8), 0);
        // A law made later, in force from an earlier day, changes what is due as known today.
        Setup.law(x, 0, 0, "5");
        CHECK.due("about(0, 8)", x.about(0, 8), 10);
        Setup.law(x, 0, 1, "3");
        CHECK.due("about(0, 8)", x.about(0, 8), 8);
    }

    private static void rows() {
        CHECK.promise("15");
        HackneyStands x = Setup.row(1, 1);
        x.stand(0, 10);
        x.stand(0, 1);
        for (int i = 0; i < 12; i++) {
            x.coach(i + 1, 0);
        }
        for (int i = 0; i < 11; i++) {
            x.go(i, 0);
        }
        checkRow(x, 0, 0, 1, 2, 3, 4, 5, 6, 7, 8, 9);
        checkCoach(x, 10, WAITS, 0, -1, -1);
        CHECK.due("turn(-1, 0)", x.turn(-1, 0), -1);
        CHECK.due("turn(2, 0)", x.turn(2, 0), -1);
        CHECK.due("turn(1, 0)", x.turn(1, 0), -1);
        CHECK.due("turn(0, -1)", x.turn(0, -1), -1);
        x.go(4, 1);
        x.go(0, -1);
        checkRow(x, 0, 1, 2, 3, 5, 6, 7, 8, 9);
        checkRow(x, 1, 4);
        x.go(11, 0);
        x.go(0, 0);
        checkRow(x, 0, 1, 2, 3, 5, 6, 7, 8, 9, 11, 0);
    }

    private static void arrivals() {
        CHECK.promise("22, arrivals");
        // One place, for which three come: the one that is there first, of like ones the least number.
        HackneyStands x = Setup.row(4, 110);
        x.stand(3, 1);
        x.coach(1, 0);
        x.coach(2, 1);
        x.coach(3, 1);
        x.go(2, 0);
        x.go(1, 0);
        x.go(0, 0);
        CHECK.due("minutes(1440)", x.minutes(1440), 1440);
        checkRow(x, 0, 1);
        checkCoach(x, 0, WAITS, 3, -1, -1);
        checkCoach(x, 1, STANDS, 3, -1, 0);
        checkCoach(x, 2, WAITS, 3, -1, -1);
    }

    private static void strengths() {
        CHECK.promise("22, strength");
        HackneyStands x = Setup.row(2, 2000);
        x.stand(0, 1);
        Setup.readyCoach(x, 1, 0);
        x.go(0, 0);
        x.minutes(100);
        CHECK.due("it stands", x.about(0, 2), 1000);
        x.call(0, 1, 1240);
        x.minutes(10);
        CHECK.due("it drives", x.about(0, 2), 970);
        x.minutes(300);
        CHECK.due("it has come, and waits", x.about(0, 2), 1000 - 3 * 259);
        CHECK.due("go(0, -1)", x.go(0, -1), 19);
        x.minutes(20);
        CHECK.due("it went, and rested a minute", x.about(0, 2), 223 - 19 + 2);
        x.minutes(396);
        CHECK.due("it rests", x.about(0, 2), 998);
        x.minutes(1);
        CHECK.due("it rests, to the most", x.about(0, 2), 1000);
        x.minutes(1);
        CHECK.due("it rests, at the most", x.about(0, 2), 1000);
        HackneyStands y = Setup.row(24, 2000);
        y.stand(23, 1);
        y.coach(1, 0);
        int[] left = {581, 162, 0};
        for (int i = 0; i < 3; i++) {
            CHECK.due("a long way", y.go(0, i % 2 == 0 ? 0 : -1), 419);
            y.minutes(419);
            CHECK.due("strength behind it", y.about(0, 2), left[i]);
        }
    }

    private static void minutes() {
        CHECK.promise("22");
        HackneyStands x = new HackneyStands();
        CHECK.due("minutes(0)", x.minutes(0), -1);
        CHECK.due("minutes(-1)", x.minutes(-1), -1);
        CHECK.due("minutes(1441)", x.minutes(1441), -1);
        CHECK.due("minutes(1)", x.minutes(1), 1);
        CHECK.due("minutes(1440)", x.minutes(1440), 1441);
        for (int i = 0; i < 498; i++) {
            x.minutes(1440);
        }
        CHECK.due("count(8)", x.count(8), 1441 + 498 * 1440);
        CHECK.due("minutes(1439), beyond", x.minutes(1439), -1);
        CHECK.due("minutes(1438)", x.minutes(1438), 719999);
        CHECK.due("minutes(1), beyond", x.minutes(1), -1);
        CHECK.due("count(8)", x.count(8), 719999);
    }
}
