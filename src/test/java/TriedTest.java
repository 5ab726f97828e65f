/** Promises 32 and 33: laws tried on the same trips, and what is counted. */
public final class TriedTest {
    private static final Check CHECK = new Check();

    private TriedTest() {
    }

    public static void main(String[] args) {
        refused();
        tried();
        triedLeastAndMost();
        counts();
        CHECK.end();
    }

    /** A city with a trip of 110 yards on each of the days 0, 1, 2 and 4, of 1, 2, 3 and 4 persons. */
    private static HackneyStands tripsOfDays() {
        HackneyStands x = Setup.row(2, 110);
        x.stand(0, 1);
        Setup.readyCoach(x, 1, 0);
        int[] days = {0, 1, 2, 4};
        for (int i = 0; i < days.length; i++) {
            x.go(0, 0);
            Setup.pass(x, days[i] * 1440 + 1439 - x.count(8));
            x.call(0, 1, 1000 * (i + 1));
            Setup.pass(x, 1);
        }
        return x;
    }

    private static void refused() {
        CHECK.promise("32, refused");
        HackneyStands x = tripsOfDays();
        Setup.law(x, 0, 0, "1");
        Setup.law(x, 1, 0, "1");
        Setup.law(x, 2, 0, "1");
        int[][] wrong = {
            {-2, -1, 5}, {3, -1, 5}, {1, -1, 5}, {2, -1, 5}, {40, -1, 5},
            {-1, -2, 5}, {-1, 3, 5}, {-1, 0, 5}, {-1, 2, 5}, {-1, 40, 5},
            {0, 1, -1}, {0, 1, 10000}, {0, 1, 50004}, {0, 1, 100000000}, {0, 1, -10000},
            {0, 1, Integer.MIN_VALUE}, {0, 1, Integer.MAX_VALUE},
        };
        for (int[] row : wrong) {
            String call = "tried(" + row[0] + ", " + row[1] + ", " + row[2] + ")";
            CHECK.due(call, x.tried(row[0], row[1], row[2]), -1);
        }
        CHECK.due("tried(0, 1, 99999999)", x.tried(0, 1, 99999999), 0);
        CHECK.due("tried(0, 1, 9999)", x.tried(0, 1, 9999), 4);
    }

    private static void tried() {
        CHECK.promise("32");
        HackneyStands x = tripsOfDays();
        // Neither the day of being made nor that of being in force matters.
        Setup.law(x, 0, 9999, "p");
        Setup.law(x, 1, 9999, "5-p");
        Setup.law(x, 0, 0, "1000");
        CHECK.due("tried(0, -1, 0)", x.tried(0, -1, 0), 1);
        CHECK.due("tried(0, -1, 9999)", x.tried(0, -1, 9999), 10);
        CHECK.due("tried(-1, 1, 9999)", x.tried(-1, 1, 9999), 10);
        CHECK.due("tried(0, 1, 9999)", x.tried(0, 1, 9999), 1 + 2 + 2 + 1);
        CHECK.due("tried(2, 1, 9999)", x.tried(2, 1, 9999), 10);
        CHECK.due("tried(2, -1, 9999)", x.tried(2, -1, 9999), 4000);
        CHECK.due("tried(-1, -1, 9999)", x.tried(-1, -1, 9999), 0);
        CHECK.due("tried(0, -1, 10001)", x.tried(0, -1, 10001), 2);
        CHECK.due("tried(0, -1, 10002)", x.tried(0, -1, 10002), 5);
        CHECK.due("tried(0, -1, 30003)", x.tried(0, -1, 30003), 0);
        CHECK.due("tried(0, -1, 30004)", x.tried(0, -1, 30004), 4);
        CHECK.due("tried(0, -1, 20004)", x.tried(0, -1, 20004), 7);
        CHECK.due("tried(0, -1, 50009)", x.tried(0, -1, 50009), 0);
    }

    private static void triedLeastAndMost() {
        CHECK.promise("32, the least and the most");
        HackneyStands x = tripsOfDays();
        Setup.law(x, 0, 0, "99999*99");
        Setup.law(x, 0, 0, "0-1");
        Setup.law(x, 1, 0, "p=1?0-5:3");
        CHECK.due("tried(0, -1, 9999)", x.tried(0, -1, 9999), 4000000);
        CHECK.due("tried(1, -1, 9999)", x.tried(1, -1, 9999), 0);
        CHECK.due("tried(-1, 2, 9999)", x.tried(-1, 2, 9999), 9);
        CHECK.due("tried(0, 2, 9999)", x.tried(0, 2, 9999), 9);
        CHECK.due("tried(1, 2, 9999)", x.tried(1, 2, 9999), 0);
    }

    private static void counts() {
        CHECK.promise("33");
        HackneyStands x = Setup.row(3, 110);
        x.stand(0, 4);
        for (int i = 0; i < 4; i++) {
            Setup.readyCoach(x, i + 1, 0);
            x.go(i, 0);
        }
        x.stand(0, 5);
        x.stand(0, 5);
        x.stand(0, 5);
        x.stand(0, 5);
        for (int i = 0; i < 6; i++) {
            Setup.law(x, 0, 0, "1");
        }
        Setup.law(x, 2, 0, "s=1000");
        x.call(0, 1, 1000);
        Setup.law(x, 2, 0, "0");
        x.call(0, 1, 1000);
        x.call(0, 1, 1000);
        x.call(0, 1, 1000);
        x.complain(1, 1);
        x.feed(4, 0);
        x.feed(4, 0);
        x.feed(1, 0);
        for (int i = 0; i < 10; i++) {
            x.lost(0, 0, 0, 0);
            x.found(0, 0);
        }
        x.found(0, 0);
        x.minutes(77);
        int[] due = {3, 2, 4, 5, 8, 3, 4, 1, 77, 9, 10, 11, 8};
        for (int what = 0; what < due.length; what++) {
            CHECK.due("count(" + what + ")", x.count(what), due[what]);
        }
        CHECK.due("count(-1)", x.count(-1), -1);
        CHECK.due("count(13)", x.count(13), -1);
    }
}
