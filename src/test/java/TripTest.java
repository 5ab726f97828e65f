/** Promises 20, 21 and 23 to 25: calls, why a coach does not come, trips, what is due, and refusals. */
public final class TripTest {
    private static final int NEVER = 9999;
    private static final Check CHECK = new Check();

    private TripTest() {
    }

    public static void main(String[] args) {
        callsRefused();
        order();
        firstInRow();
        whys();
        whyStrength();
        whyOfYear();
        whyRefused();
        trips();
        tripAsAtCall();
        tripNames();
        refusalNames();
        manyTrips();
        dues();
        duesAlike();
        duesKnown();
        refusals();
        manyRefusals();
        CHECK.end();
    }

    /** A city of a row of corners 110 yards apart, with a ready coach at a stand at corner 0. */
    private static HackneyStands readyCity(int corners) {
        HackneyStands x = Setup.row(corners, 110);
        x.stand(0, 10);
        Setup.readyCoach(x, 1, 0);
        x.go(0, 0);
        return x;
    }

    private static void checkTrip(HackneyStands x, int trip, int... facts) {
        for (int i = 0; i < facts.length; i++) {
            CHECK.due("trip(" + trip + ", " + i + ")", x.trip(trip, i), facts[i]);
        }
    }

    private static void callsRefused() {
        CHECK.promise("20, refused");
        HackneyStands x = readyCity(3);
        x.corner();
        int[][] wrong = {
            {-1, 1, 1000}, {4, 1, 1000}, {1, -1, 1000}, {1, 4, 1000}, {1, 1, 1000}, {1, 2, 0}, {1, 2, 999},
            {1, 2, 7000}, {1, 2, 1241}, {1, 2, 1999}, {1, 2, -1000}, {1, 2, -1}, {1, 2, Integer.MAX_VALUE},
        };
        for (int[] row : wrong) {
            String call = row[0] + ", " + row[1] + ", " + row[2];
            CHECK.due("call(" + call + ")", x.call(row[0], row[1], row[2]), -1);
            CHECK.due("why(0, " + call + ")", x.why(0, row[0], row[1], row[2]), -1);
        }
        CHECK.due("call(0, 3, 1000), no way of the trip", x.call(0, 3, 1000), -5);
        CHECK.due("call(3, 0, 1000), no way of the trip", x.call(3, 0, 1000), -5);
        CHECK.due("why(0, 0, 3, 1000)", x.why(0, 0, 3, 1000), -5);
        x.corner();
        x.street(304, 100, 0);
        CHECK.due("call(3, 4, 1000), no way to the caller", x.call(3, 4, 1000), -3);
        CHECK.due("why(0, 3, 4, 1000), no way to the caller", x.why(0, 3, 4, 1000), -5);
        CHECK.due("count(5)", x.count(5), 0);
        CHECK.due("call(2, 1, 6240)", x.call(2, 1, 6240), 0);
        CHECK.due("call(2, 1, 6240), nobody there", x.call(2, 1, 6240), -3);
        CHECK.due("count(5)", x.count(5), 1);
    }

    private static void order() {
        CHECK.promise("20, the order of stands");
        HackneyStands x = Setup.row(5, 100);
        int[] corners = {0, 4, 1, 3, 1};
        for (int i = 0; i < corners.length; i++) {
            x.stand(corners[i], 2);
            Setup.readyCoach(x, i + 1, corners[i]);
            x.go(i, i);
        }
        x.corner();
        x.stand(5, 1);
        Setup.readyCoach(x, 6, 5);
        x.go(5, 5);
        // To corner 2: stands 2, 3 and 4 are 100 yards away, 0 and 1 are 200; 5 has no way.
        int[] stands = {2, 3, 4, 0, 1};
        for (int i = 0; i < stands.length; i++) {
            CHECK.due("call(2, 0, 1000)", x.call(2, 0, 1000), i);
            CHECK.due("trip(" + i + ", 12)", x.trip(i, 12), stands[i]);
            CHECK.due("trip(" + i + ", 0)", x.trip(i, 0), stands[i]);
        }
        CHECK.due("call(2, 0, 1000)", x.call(2, 0, 1000), -3);
        // Yards alone tell the order, not bad streets.
        HackneyStands y = Setup.row(1, 1);
        y.corner();
        y.corner();
        y.street(1, 100, 1);
        y.street(2, 100, 0);
        for (int i = 0; i < 2; i++) {
            y.stand(i + 1, 1);
            Setup.readyCoach(y, i + 1, i + 1);
            y.go(i, i);
        }
        y.call(0, 2, 1000);
        CHECK.due("trip(0, 12)", y.trip(0, 12), 0);
        // Streets that are shut at the minute of the call count for the order.
        HackneyStands z = Setup.row(3, 100);
        z.street(2, 300, 0);
        z.stand(0, 1);
        z.stand(2, 1);
        Setup.readyCoach(z, 1, 0);
        Setup.readyCoach(z, 2, 2);
        z.go(0, 0);
        z.go(1, 1);
        z.shut(0, 0, 10);
        z.call(1, 2, 1000);
        CHECK.due("trip(0, 12)", z.trip(0, 12), 1);
    }

    private static void firstInRow() {
        CHECK.promise("20, the order in a row");
        HackneyStands x = Setup.row(2, 100);
        x.stand(0, 4);
        for (int i = 0; i < 4; i++) {
            Setup.readyCoach(x, i + 1, 0);
        }
        x.coach(5, 0);
        x.go(2, 0);
        x.go(0, 0);
        x.go(3, 0);
        x.go(1, 0);
        int[] coaches = {2, 0, 3, 1};
        for (int i = 0; i < 4; i++) {
            x.call(0, 1, 1000);
            CHECK.due("trip(" + i + ", 0)", x.trip(i, 0), coaches[i]);
            CHECK.due("turn(0, 0)", x.turn(0, 0), i < 3 ? coaches[i + 1] : -1);
        }
        // One without a licence is passed by, and stays the first.
        x.go(4, 0);
        x.minutes(10);
        x.go(2, 0);
        x.minutes(1);
        CHECK.due("turn(0, 1)", x.turn(0, 1), 2);
        CHECK.due("call(0, 1, 1000)", x.call(0, 1, 1000), 4);
        CHECK.due("trip(4, 0)", x.trip(4, 0), 2);
        CHECK.due("turn(0, 0)", x.turn(0, 0), 4);
    }

    private static void whys() {
        CHECK.promise("21");
        HackneyStands x = Setup.row(3, 110);
        x.stand(0, 2);
        x.coach(1, 0);
        CHECK.due("why of one that rests", x.why(0, 0, 1, 1000), -1);
        CHECK.due("why(-1, ..)", x.why(-1, 0, 1, 1000), -1);
        CHECK.due("why(1, ..)", x.why(1, 0, 1, 1000), -1);
        x.go(0, 0);
        Setup.law(x, 2, 0, "1");
        CHECK.due("why without a licence", x.why(0, 0, 1, 1000), 1);
        x.licence(0, 1, 5);
        CHECK.due("why with one of another year", x.why(0, 0, 1, 1000), 1);
        x.licence(0, 0, 5);
        CHECK.due("why not looked at", x.why(0, 0, 1, 1000), 2);
        x.look(0, 0);
        CHECK.due("why, refusing", x.why(0, 0, 1, 1000), 4);
        x.minutes(1440);
        CHECK.due("why, a day later", x.why(0, 0, 1, 1000), 2);
        x.look(0, 1);
        CHECK.due("why, looked at again", x.why(0, 0, 1, 1000), 4);
        Setup.law(x, 2, 2, "0");
        CHECK.due("why, a law of tomorrow", x.why(0, 0, 1, 1000), 4);
        Setup.law(x, 2, 1, "0");
        CHECK.due("why, a law of today", x.why(0, 0, 1, 1000), 0);
        CHECK.due("count(6)", x.count(6), 0);
        CHECK.due("count(5)", x.count(5), 0);
        CHECK.due("about(0, 0)", x.about(0, 0), 1);
        x.call(1, 2, 1000);
        CHECK.due("why of one that drives", x.why(0, 0, 1, 1000), -1);
        x.minutes(100);
        CHECK.due("why of one that waits", x.why(0, 0, 1, 1000), -1);
        x.go(0, -1);
        CHECK.due("why of one that goes", x.why(0, 0, 1, 1000), -1);
    }

    private static void whyStrength() {
        CHECK.promise("21, strength");
        // 419 minutes of driving up and down leave 162 of 1000.
        HackneyStands x = Setup.row(24, 2000);
        x.stand(0, 1);
        x.stand(23, 1);
        Setup.readyCoach(x, 1, 0);
        x.go(0, 1);
        x.minutes(419);
        x.go(0, 0);
        x.minutes(419);
        CHECK.due("about(0, 2)", x.about(0, 2), 162);
        CHECK.due("why, 47 minutes", x.why(0, 0, 1, 1028), 0);
        CHECK.due("why, 48 minutes", x.why(0, 0, 1, 1029), 3);
        CHECK.due("why, 19 of them to the caller", x.why(0, 1, 0, 1009), 0);
        CHECK.due("why, 19 of them to the caller, 48", x.why(0, 1, 0, 1010), 3);
        CHECK.due("call, 48 minutes", x.call(0, 1, 1029), -3);
        CHECK.due("call, 47 minutes", x.call(0, 1, 1028), 0);
        x.minutes(47);
        CHECK.due("about(0, 2)", x.about(0, 2), 162 - 141);
        x.go(0, -1);
        // 20 and three times its minutes to the last: 1000 are enough for 326 of them.
        HackneyStands y = Setup.row(11, 2000);
        y.stand(0, 1);
        Setup.readyCoach(y, 1, 0);
        y.go(0, 0);
        CHECK.due("why, 326 minutes", y.why(0, 0, 5, 1235), 0);
        CHECK.due("why, 327 minutes", y.why(0, 0, 5, 1236), 3);
        // Just as many as are wanted, and one less: to a corner that is a minute away, and back.
        y.corner();
        y.street(11, 1, 0);
        y.stand(11, 1);
        y.go(0, 1);
        y.minutes(1);
        y.go(0, 0);
        y.minutes(1);
        CHECK.due("about(0, 2)", y.about(0, 2), 998);
        CHECK.due("why, 326 minutes of 998", y.why(0, 0, 5, 1235), 0);
        y.go(0, 1);
        y.minutes(1);
        CHECK.due("why, 326 minutes of 997", y.why(0, 0, 5, 1234), 3);
        CHECK.due("why, 325 minutes of 997", y.why(0, 0, 5, 1233), 0);
    }

    private static void whyOfYear() {
        CHECK.promise("21, of the year");
        HackneyStands x = Setup.row(2, 100);
        x.stand(0, 1);
        x.coach(1, 0);
        x.look(0, NEVER);
        x.licence(0, 1, 0);
        x.go(0, 0);
        Setup.pass(x, 360 * 1440 - 1);
        CHECK.due("why on day 359", x.why(0, 0, 1, 1000), 1);
        x.minutes(1);
        CHECK.due("why on day 360", x.why(0, 0, 1, 1000), 0);
    }

    private static void whyRefused() {
        CHECK.promise("21, refusing");
        HackneyStands x = readyCity(12);
        Setup.law(x, 2, 0, "0-1");
        CHECK.due("why, less than 0", x.why(0, 0, 1, 1000), 4);
        Setup.law(x, 2, 0, "y>1000");
        CHECK.due("why, 990 yards", x.why(0, 0, 9, 1000), 0);
        CHECK.due("why, 1100 yards", x.why(0, 0, 10, 1000), 4);
        // The yards are those of the trip, not those to the caller.
        CHECK.due("why, 110 yards, far away", x.why(0, 10, 11, 1000), 0);
        Setup.law(x, 0, 0, "1");
        Setup.law(x, 1, 0, "1");
        CHECK.due("why, of fare laws", x.why(0, 0, 9, 1000), 0);
        // 3 comes ahead of 4.
        Setup.law(x, 2, 0, "1");
        CHECK.due("why, refusing", x.why(0, 0, 9, 1240), 4);
    }

    private static void trips() {
        CHECK.promise("23");
        HackneyStands x = Setup.row(2, 500);
        x.corner();
        x.corner();
        x.street(102, 1001, 1);
        x.street(203, 800, 1);
        x.stand(3, 2);
        x.stand(0, 2);
        x.coach(9, 0);
        Setup.readyCoach(x, 1, 0);
        x.go(1, 1);
        x.minutes(400);
        CHECK.due("call(1, 3, 4015)", x.call(1, 3, 4015), 0);
        // 500 yards to the caller: 5 minutes; 1801 of the trip: 17; 15 of waiting.
        checkTrip(x, 0, 1, 1, 3, 400, 405, 437, 1801, 2, 4, 15, 0, 1000, 1, -9);
        CHECK.due("trip(0, -1)", x.trip(0, -1), -9);
        CHECK.due("trip(-1, 0)", x.trip(-1, 0), -9);
        CHECK.due("trip(1, 0)", x.trip(1, 0), -9);
        x.minutes(36);
        CHECK.due("about(1, 0)", x.about(1, 0), 3);
        x.minutes(1);
        CHECK.due("about(1, 0)", x.about(1, 0), 4);
        CHECK.due("about(1, 1)", x.about(1, 1), 3);
        CHECK.due("about(1, 2)", x.about(1, 2), 1000 - 3 * 37);
        CHECK.due("go(1, 0)", x.go(1, 0), 0);
        x.minutes(643);
        CHECK.due("call(3, 2, 1000)", x.call(3, 2, 1000), 1);
        checkTrip(x, 1, 1, 3, 2, 1080, 1080, 1088, 800, 1, 1, 0, 1, 889, 0, -9);
    }

    private static void tripAsAtCall() {
        CHECK.promise("23, as at the call");
        HackneyStands x = readyCity(3);
        Setup.law(x, 0, 0, "n*10+1");
        x.minutes(359);
        x.call(2, 0, 1000);
        // It is no night any more when the caller gets in, nor by what is told of the sun later.
        CHECK.due("trip(0, 10)", x.trip(0, 10), 1);
        x.sun(0, 0, 1440);
        x.street(2, 1, 0);
        CHECK.due("trip(0, 10)", x.trip(0, 10), 1);
        CHECK.due("due(0, 0, 0)", x.due(0, 0, 0), 11);
        CHECK.due("trip(0, 6)", x.trip(0, 6), 220);
        x.shut(0, 359, 5000);
        x.minutes(4);
        CHECK.due("about(0, 0)", x.about(0, 0), 4);
        CHECK.due("about(0, 1)", x.about(0, 1), 0);
    }

    private static void tripNames() {
        CHECK.promise("24, names");
        HackneyStands x = Setup.row(2, 1000);
        x.corner();
        x.street(102, 234, 1);
        x.stand(0, 1);
        Setup.readyCoach(x, 1, 0);
        Setup.pass(x, 1440 * 5 - 60);
        x.go(0, 0);
        Setup.pass(x, 1440 * 30 + 60 + 779);
        // The day is 35, weekday 0; a law for each name, tried on one trip at 12:59.
        x.call(1, 2, 3045);
        String[] names = {"y", "t", "w", "n", "p", "b", "d", "h", "s"};
        int[] values = {234, 48, 45, 0, 3, 1, 0, 12, 1000};
        for (int i = 0; i < names.length; i++) {
            int law = Setup.law(x, 0, 0, names[i]);
            CHECK.due("tried, " + names[i], x.tried(law, -1, 350035), values[i]);
            CHECK.due("due, " + names[i], x.due(0, 35, 0), values[i]);
        }
        x.minutes(120);
        x.go(0, 0);
        x.minutes(1440 * 1 - 121);
        x.call(1, 2, 1000);
        int[] later = {234, 3, 0, 0, 1, 1, 1, 12, 1000 - 3 * 58 - 12};
        for (int i = 0; i < names.length; i++) {
            CHECK.due("tried, " + names[i], x.tried(i, -1, 360036), later[i]);
        }
    }

    private static void refusalNames() {
        CHECK.promise("21, names");
        HackneyStands x = Setup.row(2, 1000);
        x.corner();
        x.street(102, 234, 1);
        x.stand(0, 1);
        Setup.readyCoach(x, 1, 0);
        x.go(0, 0);
        Setup.pass(x, 1440 * 33 + 1105);
        int[] minutes = {1439, 1440, 1499, 1500, 2159, 2160};
        for (int i = 0; i < minutes.length; i++) {
            HackneyStands y = readyCity(2);
            Setup.pass(y, minutes[i]);
            Setup.law(y, 2, 0, "d*100+h=" + (minutes[i] / 1440 * 100 + minutes[i] % 1440 / 60));
            CHECK.due("why in minute " + minutes[i], y.why(0, 0, 1, 1000), 4);
        }
        String[] names = {"y=234", "t=48", "w=45", "n=1", "p=3", "b=1", "d=5", "h=18", "s=1000"};
        for (String name : names) {
            Setup.law(x, 2, 0, name);
            CHECK.due("why, " + name, x.why(0, 1, 2, 3045), 4);
        }
    }

    private static void manyTrips() {
        CHECK.promise("20, 300 trips");
        HackneyStands x = Setup.row(2, 1);
        for (int i = 0; i < 2; i++) {
            x.stand(i, 10);
        }
        for (int i = 0; i < 30; i++) {
            Setup.readyCoach(x, i + 1, 0);
        }
        int trips = 0;
        for (int round = 0; round < 40 && trips < 300; round++) {
            int at = round % 2;
            for (int i = 0; i < 10; i++) {
                x.go(i, at);
            }
            for (int i = 0; i < 10; i++) {
                CHECK.due("call", x.call(at, 1 - at, 1000), trips);
                trips++;
            }
            x.minutes(1);
        }
        x.go(0, 0);
        Setup.law(x, 2, 0, "1");
        CHECK.due("count(5)", x.count(5), 300);
        CHECK.due("the 301st", x.call(0, 1, 1000), -2);
        CHECK.due("count(6)", x.count(6), 0);
        CHECK.due("a wrong 301st", x.call(0, 0, 1000), -1);
        x.corner();
        CHECK.due("a 301st without a way", x.call(0, 2, 1000), -5);
        CHECK.due("why of it", x.why(0, 0, 1, 1000), 4);
        CHECK.due("trip(299, 0)", x.trip(299, 0), 9);
        CHECK.due("trip(300, 0)", x.trip(300, 0), -9);
        CHECK.due("about(9, 7)", x.about(9, 7), 30);
    }

    private static void dues() {
        CHECK.promise("24");
        HackneyStands x = readyCity(3);
        x.call(0, 1, 1000);
        CHECK.due("due(0, 0, 0) without a law", x.due(0, 0, 0), -9);
        CHECK.due("due(0, 0, 1) without a law", x.due(0, 0, 1), -9);
        Setup.law(x, 2, 0, "0");
        CHECK.due("due(0, 0, 0) of refusals", x.due(0, 0, 0), -9);
        Setup.law(x, 1, 0, "50");
        CHECK.due("due(0, 0, 0)", x.due(0, 0, 0), 50);
        CHECK.due("due(0, 0, 1)", x.due(0, 0, 1), 1);
        Setup.law(x, 0, 0, "60");
        CHECK.due("due(0, 0, 0)", x.due(0, 0, 0), 50);
        CHECK.due("due(0, 0, 1)", x.due(0, 0, 1), 1);
        Setup.law(x, 0, 0, "50");
        CHECK.due("due(0, 0, 1) of like ones", x.due(0, 0, 1), 0);
        Setup.law(x, 0, 0, "49");
        CHECK.due("due(0, 0, 0)", x.due(0, 0, 0), 49);
        CHECK.due("due(0, 0, 1)", x.due(0, 0, 1), 0);
        CHECK.due("due(-1, 0, 0)", x.due(-1, 0, 0), -9);
        CHECK.due("due(1, 0, 0)", x.due(1, 0, 0), -9);
        CHECK.due("due(0, -1, 0)", x.due(0, -1, 0), -9);
        CHECK.due("due(0, 10000, 0)", x.due(0, 10000, 0), -9);
        CHECK.due("due(0, 9999, 0)", x.due(0, 9999, 0), 49);
        CHECK.due("due(0, 0, -1)", x.due(0, 0, -1), -9);
        CHECK.due("due(0, 0, 2)", x.due(0, 0, 2), -9);
    }

    private static void duesAlike() {
        CHECK.promise("24, the least and the most");
        HackneyStands x = readyCity(3);
        x.call(0, 1, 1000);
        Setup.law(x, 0, 0, "0-7");
        CHECK.due("due(0, 0, 0)", x.due(0, 0, 0), 0);
        CHECK.due("due(0, 0, 1)", x.due(0, 0, 1), 0);
        Setup.law(x, 1, 0, "0-9");
        CHECK.due("due(0, 0, 1), both 0", x.due(0, 0, 1), 0);
        Setup.law(x, 0, 0, "10000*100");
        Setup.law(x, 1, 0, "10000*100+1");
        CHECK.due("due(0, 0, 0), the most", x.due(0, 0, 0), 1000000);
        CHECK.due("due(0, 0, 1), the most", x.due(0, 0, 1), 0);
        Setup.law(x, 0, 0, "10000*200");
        CHECK.due("due(0, 0, 0), both above", x.due(0, 0, 0), 1000000);
        CHECK.due("due(0, 0, 1), both above", x.due(0, 0, 1), 0);
        Setup.law(x, 1, 0, "99999*10");
        CHECK.due("due(0, 0, 0)", x.due(0, 0, 0), 999990);
        CHECK.due("due(0, 0, 1)", x.due(0, 0, 1), 1);
        CHECK.due("about(0, 8)", x.about(0, 8), 999990);
    }

    private static void duesKnown() {
        CHECK.promise("24, as known");
        HackneyStands x = readyCity(3);
        x.stand(1, 10);
        Setup.law(x, 0, 0, "10");
        Setup.law(x, 1, 1, "7");
        Setup.pass(x, 1440);
        x.call(0, 1, 1000);
        Setup.pass(x, 1439);
        Setup.law(x, 0, 1, "5");
        Setup.pass(x, 1);
        Setup.law(x, 0, 1, "8");
        Setup.law(x, 1, 2, "1");
        CHECK.due("due(0, 0, 0)", x.due(0, 0, 0), 7);
        CHECK.due("due(0, 0, 1)", x.due(0, 0, 1), 1);
        CHECK.due("due(0, 1, 0)", x.due(0, 1, 0), 5);
        CHECK.due("due(0, 1, 1)", x.due(0, 1, 1), 0);
        CHECK.due("due(0, 2, 0)", x.due(0, 2, 0), 7);
        CHECK.due("due(0, 2, 1)", x.due(0, 2, 1), 1);
        CHECK.due("about(0, 8)", x.about(0, 8), 7);
        x.go(0, 1);
        x.call(1, 0, 1000);
        CHECK.due("due(1, 1, 0)", x.due(1, 1, 0), 5);
        CHECK.due("due(1, 2, 0)", x.due(1, 2, 0), 1);
        CHECK.due("about(0, 8)", x.about(0, 8), 8);
    }

    private static void refusals() {
        CHECK.promise("25");
        HackneyStands x = Setup.row(4, 110);
        x.stand(0, 4);
        x.stand(3, 3);
        for (int i = 0; i < 4; i++) {
            Setup.readyCoach(x, i + 1, i < 2 ? 3 : 0);
            x.go(i, i < 2 ? 1 : 0);
        }
        x.coach(9, 0);
        x.go(4, 0);
        // Those refuse who have their whole strength.
        Setup.law(x, 2, 0, "s=1000");
        x.minutes(77);
        CHECK.due("call(1, 2, 1000)", x.call(1, 2, 1000), -3);
        CHECK.due("count(6)", x.count(6), 4);
        int[] coaches = {2, 3, 0, 1};
        for (int i = 0; i < 4; i++) {
            CHECK.due("refusal(i, 0)", x.refusal(i, 0), coaches[i]);
            CHECK.due("refusal(i, 1)", x.refusal(i, 1), 77);
            CHECK.due("refusal(i, 2)", x.refusal(i, 2), 1);
            CHECK.due("refusal(i, 3)", x.refusal(i, 3), 2);
        }
        CHECK.due("refusal(0, 4)", x.refusal(0, 4), -1);
        CHECK.due("refusal(0, -1)", x.refusal(0, -1), -1);
        CHECK.due("refusal(4, 0)", x.refusal(4, 0), -1);
        CHECK.due("refusal(-1, 0)", x.refusal(-1, 0), -1);
        // One that comes ends the asking: of those behind it none is noted.
        x.go(0, 0);
        x.minutes(3);
        x.go(3, -1);
        x.go(3, 0);
        CHECK.due("call(0, 3, 2000)", x.call(0, 3, 2000), 0);
        CHECK.due("trip(0, 0)", x.trip(0, 0), 0);
        CHECK.due("count(6)", x.count(6), 5);
        CHECK.due("refusal(4, 0)", x.refusal(4, 0), 2);
        CHECK.due("refusal(4, 1)", x.refusal(4, 1), 80);
        CHECK.due("refusal(4, 2)", x.refusal(4, 2), 0);
        CHECK.due("refusal(4, 3)", x.refusal(4, 3), 3);
        // What is refused for what was told notes nothing.
        x.corner();
        CHECK.due("call(0, 4, 1000)", x.call(0, 4, 1000), -5);
        CHECK.due("call(0, 0, 1000)", x.call(0, 0, 1000), -1);
        CHECK.due("count(6)", x.count(6), 5);
    }

    private static void manyRefusals() {
        CHECK.promise("25, 300 of them");
        HackneyStands x = Setup.row(2, 1);
        for (int stand = 0; stand < 3; stand++) {
            x.stand(0, 10);
        }
        for (int i = 0; i < 28; i++) {
            Setup.readyCoach(x, i + 1, 0);
            x.go(i, i / 10);
        }
        Setup.law(x, 2, 0, "1");
        for (int i = 0; i < 10; i++) {
            CHECK.due("call(0, 1, 1000)", x.call(0, 1, 1000), -3);
        }
        CHECK.due("count(6)", x.count(6), 280);
        x.minutes(1);
        x.call(1, 0, 1000);
        CHECK.due("count(6)", x.count(6), 300);
        CHECK.due("refusal(299, 0)", x.refusal(299, 0), 19);
        x.call(1, 0, 1000);
        CHECK.due("count(6)", x.count(6), 300);
        CHECK.due("refusal(280, 0)", x.refusal(280, 0), 0);
        CHECK.due("refusal(280, 2)", x.refusal(280, 2), 1);
        CHECK.due("refusal(300, 0)", x.refusal(300, 0), -1);
    }
}
