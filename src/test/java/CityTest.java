/** Promises 1 to 8: a new object, corners, streets, the sun, and ways. */
public final class CityTest {
    private static final Check CHECK = new Check();

    private CityTest() {
    }

    public static void main(String[] args) {
        newObject();
        corners();
        streets();
        spans();
        suns();
        ways();
        waysAlike();
        waysShut();
        steps();
        nights();
        CHECK.end();
    }

    private static HackneyStands cornersOnly(int n) {
        HackneyStands x = new HackneyStands();
        for (int i = 0; i < n; i++) {
            x.corner();
        }
        return x;
    }

    private static void checkWay(HackneyStands x, int a, int b, int minute, int yards, int... corners) {
        String call = "way(" + a + ", " + b + ", " + minute + ")";
        CHECK.due(call, x.way(a, b, minute), yards);
        for (int i = 0; i < corners.length; i++) {
            CHECK.due(call + " step(" + i + ")", x.step(i), corners[i]);
        }
        CHECK.due(call + " step(" + corners.length + ")", x.step(corners.length), -1);
    }

    private static void newObject() {
        CHECK.promise("1");
        HackneyStands x = new HackneyStands();
        for (int what = 0; what <= 12; what++) {
            CHECK.due("count(" + what + ")", x.count(what), 0);
        }
        CHECK.due("step(0)", x.step(0), -1);
        CHECK.due("about(0, 0)", x.about(0, 0), -9);
        CHECK.due("turn(0, 0)", x.turn(0, 0), -1);
        CHECK.due("inForce(0, 0, 0)", x.inForce(0, 0, 0), -9);
        CHECK.due("trip(0, 0)", x.trip(0, 0), -9);
        CHECK.due("refusal(0, 0)", x.refusal(0, 0), -1);
        CHECK.due("judged(0, 0)", x.judged(0, 0), -9);
        CHECK.due("joined(0)", x.joined(0), -1);
        CHECK.due("fits(0)", x.fits(0), -1);
    }

    private static void corners() {
        CHECK.promise("2");
        HackneyStands x = new HackneyStands();
        for (int i = 0; i < 24; i++) {
            CHECK.due("corner()", x.corner(), i);
        }
        CHECK.due("the 25th corner()", x.corner(), -2);
        CHECK.due("count(0)", x.count(0), 24);
    }

    private static void streets() {
        CHECK.promise("3");
        HackneyStands x = cornersOnly(3);
        CHECK.due("street(1, 1, 0)", x.street(1, 1, 0), 0);
        CHECK.due("street(102, 2000, 1)", x.street(102, 2000, 1), 1);
        CHECK.due("street(100, 5, 0)", x.street(100, 5, 0), 2);
        CHECK.due("street(3, 5, 0)", x.street(3, 5, 0), -1);
        CHECK.due("street(300, 5, 0)", x.street(300, 5, 0), -1);
        CHECK.due("street(101, 5, 0)", x.street(101, 5, 0), -1);
        CHECK.due("street(-1, 5, 0)", x.street(-1, 5, 0), -1);
        CHECK.due("street(-100, 5, 0)", x.street(-100, 5, 0), -1);
        CHECK.due("street(1, 0, 0)", x.street(1, 0, 0), -1);
        CHECK.due("street(1, 2001, 0)", x.street(1, 2001, 0), -1);
        CHECK.due("street(1, 5, 2)", x.street(1, 5, 2), -1);
        CHECK.due("street(1, 5, -1)", x.street(1, 5, -1), -1);
        CHECK.due("street(MIN, 5, 0)", x.street(Integer.MIN_VALUE, 5, 0), -1);
        CHECK.due("street(MAX, 5, 0)", x.street(Integer.MAX_VALUE, 5, 0), -1);
        for (int i = 3; i < 60; i++) {
            CHECK.due("street(1, 9, 0)", x.street(1, 9, 0), i);
        }
        CHECK.due("the 61st street", x.street(1, 9, 0), -2);
        CHECK.due("a wrong 61st street", x.street(1, 0, 0), -1);
        CHECK.due("count(1)", x.count(1), 60);
        checkWay(x, 0, 2, 0, 2001, 0, 1, 2);
    }

    private static void spans() {
        CHECK.promise("4");
        HackneyStands x = cornersOnly(2);
        x.street(1, 10, 0);
        x.minutes(100);
        CHECK.due("shut(0, 99, 200)", x.shut(0, 99, 200), -1);
        CHECK.due("shut(-1, 100, 200)", x.shut(-1, 100, 200), -1);
        CHECK.due("shut(1, 100, 200)", x.shut(1, 100, 200), -1);
        CHECK.due("shut(0, 200, 200)", x.shut(0, 200, 200), -1);
        CHECK.due("shut(0, 200, 199)", x.shut(0, 200, 199), -1);
        CHECK.due("shut(0, 200, 720001)", x.shut(0, 200, 720001), -1);
        CHECK.due("shut(0, 100, 200)", x.shut(0, 100, 200), 1);
        CHECK.due("shut(0, 150, 250)", x.shut(0, 150, 250), 2);
        CHECK.due("shut(0, 719999, 720000)", x.shut(0, 719999, 720000), 3);
        CHECK.due("shut(0, 300, 301)", x.shut(0, 300, 301), 4);
        CHECK.due("the 5th span", x.shut(0, 400, 500), -2);
        CHECK.due("a wrong 5th span", x.shut(0, 400, 400), -1);
        int[] open = {0, 99, 250, 299, 301, 400, 719998};
        int[] shut = {100, 149, 150, 199, 200, 249, 300, 719999};
        for (int minute : open) {
            CHECK.due("way(0, 1, " + minute + ")", x.way(0, 1, minute), 10);
        }
        for (int minute : shut) {
            CHECK.due("way(0, 1, " + minute + ")", x.way(0, 1, minute), -5);
        }
    }

    private static void suns() {
        CHECK.promise("5");
        HackneyStands x = new HackneyStands();
        CHECK.due("sun(-1, 0, 0)", x.sun(-1, 0, 0), -1);
        CHECK.due("sun(12, 0, 0)", x.sun(12, 0, 0), -1);
        CHECK.due("sun(0, -1, 0)", x.sun(0, -1, 0), -1);
        CHECK.due("sun(0, 6, 5)", x.sun(0, 6, 5), -1);
        CHECK.due("sun(0, 0, 1441)", x.sun(0, 0, 1441), -1);
        CHECK.due("night(359) before", x.night(359), 1);
        CHECK.due("sun(0, 0, 1440)", x.sun(0, 0, 1440), 1);
        CHECK.due("night(0)", x.night(0), 0);
        CHECK.due("night(1439)", x.night(1439), 0);
        CHECK.due("sun(0, 5, 5)", x.sun(0, 5, 5), 1);
        CHECK.due("night(5)", x.night(5), 1);
        CHECK.due("sun(11, 10, 20)", x.sun(11, 10, 20), 1);
        CHECK.due("night in month 11", x.night(330 * 1440 + 10), 0);
        CHECK.due("night in month 11, before", x.night(330 * 1440 + 9), 1);
        CHECK.due("night in month 10", x.night(330 * 1440 - 1440 + 10), 1);
        CHECK.due("night in month 0 of year 1", x.night(360 * 1440 + 10), 1);
        CHECK.due("night in month 1", x.night(30 * 1440 + 360), 0);
    }

    private static void ways() {
        CHECK.promise("6");
        HackneyStands x = cornersOnly(5);
        x.street(1, 700, 0);
        x.street(102, 300, 0);
        x.street(2, 1001, 0);
        x.street(203, 2000, 1);
        CHECK.due("way(-1, 0, 0)", x.way(-1, 0, 0), -1);
        CHECK.due("way(0, 5, 0)", x.way(0, 5, 0), -1);
        CHECK.due("way(5, 0, 0)", x.way(5, 0, 0), -1);
        CHECK.due("way(0, -1, 0)", x.way(0, -1, 0), -1);
        CHECK.due("way(0, 1, -1)", x.way(0, 1, -1), -1);
        CHECK.due("way(0, 1, 720000)", x.way(0, 1, 720000), -1);
        CHECK.due("way(0, 4, 0)", x.way(0, 4, 0), -5);
        CHECK.due("way(4, 0, 719999)", x.way(4, 0, 719999), -5);
        checkWay(x, 0, 2, 0, 1000, 0, 1, 2);
        checkWay(x, 3, 0, 719999, 3000, 3, 2, 1, 0);
        checkWay(x, 4, 4, 0, 0, 4);
    }

    private static void waysAlike() {
        CHECK.promise("6, of like ways");
        // Of like yards the fewest bad streets, though its corners come later.
        HackneyStands x = cornersOnly(6);
        x.street(1, 500, 1);
        x.street(105, 500, 0);
        x.street(2, 400, 0);
        x.street(205, 600, 0);
        checkWay(x, 0, 5, 0, 1000, 0, 2, 5);
        // Of like ones of these the first corners, from whichever end they are read.
        x.street(4, 300, 0);
        x.street(405, 700, 0);
        checkWay(x, 0, 5, 0, 1000, 0, 2, 5);
        checkWay(x, 5, 0, 0, 1000, 5, 2, 0);
        x.street(3, 100, 0);
        x.street(302, 300, 0);
        checkWay(x, 0, 5, 0, 1000, 0, 2, 5);
        checkWay(x, 5, 0, 0, 1000, 5, 2, 0);
        // Of two streets between the same corners the one that is not bad, and the shorter one ahead of all.
        x.street(1, 500, 0);
        checkWay(x, 0, 5, 0, 1000, 0, 1, 5);
        checkWay(x, 5, 0, 0, 1000, 5, 1, 0);
        x.street(5, 999, 1);
        checkWay(x, 0, 5, 0, 999, 0, 5);
        // More corners come first when they are less: 0, 1, 2, 3 ahead of 0, 2, 3 and of 0, 3.
        HackneyStands y = cornersOnly(4);
        y.street(3, 30, 0);
        y.street(2, 20, 0);
        y.street(203, 10, 0);
        y.street(1, 10, 0);
        y.street(102, 10, 0);
        checkWay(y, 0, 3, 0, 30, 0, 1, 2, 3);
        checkWay(y, 3, 0, 0, 30, 3, 0);
    }

    private static void waysShut() {
        CHECK.promise("6, of shut streets");
        HackneyStands x = cornersOnly(3);
        x.street(1, 100, 0);
        x.street(102, 100, 0);
        x.street(2, 900, 0);
        x.shut(1, 50, 60);
        checkWay(x, 0, 2, 49, 200, 0, 1, 2);
        checkWay(x, 0, 2, 50, 900, 0, 2);
        checkWay(x, 1, 2, 59, 1000, 1, 0, 2);
        checkWay(x, 1, 2, 60, 100, 1, 2);
        // A long row: each street is needed.
        HackneyStands y = cornersOnly(24);
        for (int i = 22; i >= 0; i--) {
            y.street(100 * i + i + 1, 2000, 1);
        }
        CHECK.due("way(0, 23, 0)", y.way(0, 23, 0), 46000);
        CHECK.due("step(23)", y.step(23), 23);
        CHECK.due("way(23, 0, 0)", y.way(23, 0, 0), 46000);
        CHECK.due("step(23)", y.step(23), 0);
        CHECK.due("step(24)", y.step(24), -1);
    }

    private static void steps() {
        CHECK.promise("7");
        HackneyStands x = cornersOnly(4);
        x.street(1, 10, 0);
        x.street(102, 10, 0);
        CHECK.due("step(0) before a way", x.step(0), -1);
        x.way(0, 2, 0);
        CHECK.due("step(-1)", x.step(-1), -1);
        CHECK.due("step(0)", x.step(0), 0);
        CHECK.due("step(2)", x.step(2), 2);
        CHECK.due("step(3)", x.step(3), -1);
        CHECK.due("step(MAX)", x.step(Integer.MAX_VALUE), -1);
        // Neither a refused way nor another's use of ways changes what was told.
        x.way(0, 3, 0);
        x.way(0, 4, 0);
        x.coach(1, 1);
        x.stand(0, 1);
        x.go(0, 0);
        CHECK.due("step(0)", x.step(0), 0);
        CHECK.due("step(1)", x.step(1), 1);
        CHECK.due("step(2)", x.step(2), 2);
        x.way(1, 1, 0);
        CHECK.due("step(0)", x.step(0), 1);
        CHECK.due("step(1)", x.step(1), -1);
    }

    private static void nights() {
        CHECK.promise("8");
        HackneyStands x = new HackneyStands();
        int[] night = {0, 359, 1080, 1439, 1440, 719999};
        int[] day = {360, 1079, 1800, 718920};
        for (int minute : night) {
            CHECK.due("night(" + minute + ")", x.night(minute), 1);
        }
        for (int minute : day) {
            CHECK.due("night(" + minute + ")", x.night(minute), 0);
        }
        CHECK.due("night(-1)", x.night(-1), -1);
        CHECK.due("night(720000)", x.night(720000), -1);
    }
}
