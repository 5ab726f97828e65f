/** The sentences of promises 1 to 8, and those of 'Terms' on the city, that name an edge. */
public final class CityEdgeTest {
    private static final int DAY = 1440;
    private static final int MONTH = 30 * DAY;
    private static final Check CHECK = new Check();

    private CityEdgeTest() {
    }

    public static void main(String[] args) {
        newObject();
        corners();
        streets();
        streetEnds();
        streetYards();
        streetBad();
        spans();
        spansOfEach();
        sun();
        night();
        nightOfMonths();
        nightOfDays();
        wayNumbers();
        wayToItself();
        wayOfLeastYards();
        wayOfFewestBad();
        wayOfFirstCorners();
        steps();
        CHECK.end();
    }

    private static Run run() {
        return new Run(CHECK);
    }

    private static void checkWay(Run run, String call, int yards, int... corners) {
        run.due(call, yards);
        for (int i = 0; i < corners.length; i++) {
            run.due("step(" + i + ")", corners[i]);
        }
        run.due("step(" + corners.length + ")", -1);
    }

    private static void newObject() {
        CHECK.sentence("Promise 1", "MINUTE 0, no corners, no coaches, no laws.");
        Run run = run();
        for (int what = 0; what <= 12; what++) {
            run.due("count(" + what + ")", 0);
        }
        run.refuses("way(0, 0, 0)", -1).refuses("step(0)", -1).refuses("shut(0, 0, 1)", -1);
        run.refuses("coach(1, 0)", -1).refuses("stand(0, 1)", -1).refuses("about(0, 0)", -9).refuses("turn(0, 0)", -1);
        run.refuses("licence(0, 0, 0)", -1).refuses("look(0, 0)", -9).refuses("go(0, -1)", -1).refuses("go(0, 0)", -1);
        run.refuses("law(0, 0)", -100).refuses("inForce(0, 0, 0)", -9).refuses("says(0, 0, 0, 0, 0)", -2000000000);
        run.refuses("call(0, 1, 1000)", -1).refuses("why(0, 0, 1, 1000)", -1).refuses("trip(0, 0)", -9);
        run.refuses("due(0, 0, 0)", -9).refuses("refusal(0, 0)", -1).refuses("complain(0, 0)", -1);
        run.refuses("judged(0, 0)", -9).refuses("found(0, 0)", -1).refuses("joined(0)", -1).refuses("fits(0)", -1);
        run.refuses("tried(0, -1, 0)", -1).refuses("tried(-1, 0, 0)", -1).due("tried(-1, -1, 9999)", 0);
    }

    private static void corners() {
        CHECK.sentence("Terms", "CORNERS 0 .. 23, as they were made.");
        Run run = run();
        for (int i = 0; i < 24; i++) {
            run.refuses("way(" + i + ", " + i + ", 0)", -1);
            run.due("corner()", i).due("count(0)", i + 1).due("way(" + i + ", " + i + ", 0)", 0);
        }
        CHECK.sentence("Promise 2", "A new CORNER: its number. FULL.");
        run.refuses("corner()", -2).refuses("corner()", -2).due("count(0)", 24).refuses("way(24, 24, 0)", -1);
    }

    private static void streets() {
        CHECK.sentence("Terms", "STREETS 0 .. 59, as they were made");
        Run run = run().corners(2);
        for (int i = 0; i < 60; i++) {
            run.refuses("shut(" + i + ", 0, 1)", -1);
            run.due("street(1, 9, 0)", i).due("shut(" + i + ", 0, 1)", 1).due("count(1)", i + 1);
        }
        CHECK.sentence("Promise 3", "A new STREET: its number.");
        run.refuses("street(1, 1, 0)", -2).refuses("street(1, 1, 0)", -2).due("count(1)", 60).due("way(0, 1, 1)", 9);
        run.refuses("shut(60, 0, 1)", -1);
    }

    private static void streetEnds() {
        CHECK.sentence("Terms", "between two unlike CORNERS (more than one between the same two may be)");
        Run run = run().corners(24);
        run.refuses("street(0, 5, 0)", -1).refuses("street(101, 5, 0)", -1).refuses("street(2323, 5, 0)", -1);
        run.due("street(1, 70, 0)", 0).due("street(1, 50, 0)", 1).due("street(1, 60, 0)", 2).due("way(0, 1, 0)", 50);
        CHECK.sentence("Promise 3", "ends: 100 times one CORNER, and the other.");
        run.due("street(23, 7, 0)", 3).due("way(0, 23, 0)", 7).due("way(23, 0, 0)", 7);
        run.due("street(2300, 6, 0)", 4).due("way(0, 23, 0)", 6).due("street(2223, 5, 0)", 5).due("way(22, 23, 0)", 5);
        run.refuses("street(24, 5, 0)", -1).refuses("street(99, 5, 0)", -1).refuses("street(2400, 5, 0)", -1);
        run.refuses("street(-1, 5, 0)", -1).refuses("street(-100, 5, 0)", -1).refuses("street(-99, 5, 0)", -1);
        run.refuses("street(2324, 5, 0)", -1).refuses("street(10000, 5, 0)", -1).refuses("street(99, 5, 0)", -1);
        run.refuses("street(" + Integer.MIN_VALUE + ", 5, 0)", -1).refuses("street(" + Integer.MAX_VALUE + ", 5, 0)", -1);
        Run few = run().corners(3);
        few.refuses("street(3, 5, 0)", -1).refuses("street(300, 5, 0)", -1).due("street(200, 5, 0)", 0);
        few.make("corner()").due("street(3, 4, 0)", 1).due("way(3, 0, 0)", 4);
    }

    private static void streetYards() {
        CHECK.sentence("Terms", "YARDS long (1 .. 2000), BAD or not.");
        Run run = run().corners(3);
        run.refuses("street(1, 0, 0)", -1).due("street(1, 1, 0)", 0).due("way(0, 1, 0)", 1);
        run.refuses("street(102, 2001, 0)", -1).due("street(102, 2000, 0)", 1).due("way(1, 2, 0)", 2000);
        run.refuses("street(1, -1, 0)", -1).refuses("street(1, " + Integer.MIN_VALUE + ", 0)", -1);
        run.refuses("street(1, " + Integer.MAX_VALUE + ", 0)", -1).due("count(1)", 2);
    }

    private static void streetBad() {
        CHECK.sentence("Promise 3", "NONE (also bad not 0, 1); FULL.");
        Run run = run().corners(2);
        run.refuses("street(1, 5, -1)", -1).due("street(1, 5, 0)", 0).due("street(1, 5, 1)", 1);
        run.refuses("street(1, 5, 2)", -1).refuses("street(1, 5, 10)", -1);
        for (int i = 2; i < 60; i++) {
            run.due("street(1, 5, 1)", i);
        }
        run.refuses("street(1, 5, 1)", -2);
        // NONE is named ahead of FULL.
        run.refuses("street(1, 5, 2)", -1).refuses("street(1, 0, 0)", -1).refuses("street(2, 5, 0)", -1);
    }

    private static void spans() {
        CHECK.sentence("Promise 4", "A STREET is SHUT from a MINUTE (that now, or later) to a later one (at most 720000): "
            + "how many spans it has.");
        Run run = run().row(2, 10).passTo(100);
        run.refuses("shut(0, 99, 200)", -1).refuses("shut(0, 0, 200)", -1).refuses("shut(0, -1, 200)", -1);
        run.due("shut(0, 100, 101)", 1).due("way(0, 1, 99)", 10).due("way(0, 1, 100)", -5).due("way(0, 1, 101)", 10);
        run.refuses("shut(0, 300, 300)", -1).refuses("shut(0, 300, 299)", -1).due("shut(0, 300, 301)", 2);
        run.refuses("shut(0, 719999, 720001)", -1).due("shut(0, 719999, 720000)", 3);
        run.due("way(0, 1, 719998)", 10).due("way(0, 1, 719999)", -5);
        run.refuses("shut(0, 720000, 720000)", -1).refuses("shut(0, 720000, 720001)", -1);
        run.due("shut(0, 101, 720000)", 4).due("way(0, 1, 101)", -5).due("way(0, 1, 719998)", -5);
        CHECK.sentence("Promise 4", "NONE, FULL.");
        run.refuses("shut(-1, 100, 200)", -1).refuses("shut(1, 100, 200)", -1).refuses("shut(60, 100, 200)", -1);
        run.refuses("shut(0, 100, 200)", -2);
        // NONE is named ahead of FULL.
        run.refuses("shut(0, 99, 200)", -1).refuses("shut(0, 200, 200)", -1).refuses("shut(0, 200, 720001)", -1);
    }

    private static void spansOfEach() {
        CHECK.sentence("Terms", "A STREET is SHUT from a MINUTE to another one (the last one not; at most 4 such spans each, "
            + "which may meet).");
        Run run = run().row(3, 10);
        run.due("shut(0, 10, 20)", 1).due("shut(0, 20, 30)", 2).due("shut(0, 25, 40)", 3).due("way(0, 1, 40)", 10);
        run.due("shut(0, 50, 60)", 4).refuses("shut(0, 70, 80)", -2).refuses("shut(0, 50, 60)", -2);
        for (int minute : new int[] {0, 9, 40, 49, 60, 70, 79}) {
            run.due("way(0, 1, " + minute + ")", 10);
        }
        for (int minute : new int[] {10, 19, 20, 25, 29, 30, 39, 50, 59}) {
            run.due("way(0, 1, " + minute + ")", -5);
        }
        run.due("way(1, 2, 15)", 10).due("shut(1, 10, 20)", 1).due("way(1, 2, 15)", -5).due("shut(1, 10, 20)", 2);
    }

    private static void sun() {
        CHECK.sentence("Promise 5", "RISE and SET of a MONTH (0 <= rise <= set <= 1440): 1. NONE.");
        Run run = run();
        run.refuses("sun(0, -1, 1440)", -1).refuses("sun(0, 0, 1441)", -1).refuses("sun(0, 501, 500)", -1);
        run.refuses("sun(0, 1441, 1441)", -1).refuses("sun(0, -1, -1)", -1).refuses("sun(0, 1, 0)", -1);
        run.due("sun(0, 0, 1440)", 1).due("night(0)", 0).due("night(1439)", 0);
        run.due("sun(0, 500, 500)", 1).due("night(499)", 1).due("night(500)", 1).due("night(501)", 1);
        run.due("sun(0, 500, 501)", 1).due("night(499)", 1).due("night(500)", 0).due("night(501)", 1);
        run.due("sun(0, 0, 0)", 1).due("night(0)", 1).due("sun(0, 1440, 1440)", 1).due("night(1439)", 1);
        run.refuses("sun(-1, 0, 1440)", -1).refuses("sun(12, 0, 1440)", -1);
        run.refuses("sun(" + Integer.MIN_VALUE + ", 0, 0)", -1).refuses("sun(" + Integer.MAX_VALUE + ", 0, 0)", -1);
        run.due("sun(11, 0, 1440)", 1).due("night(" + 11 * MONTH + ")", 0).due("night(" + 10 * MONTH + ")", 1);
        run.due("night(0)", 1).due("sun(0, 0, 1440)", 1).due("night(0)", 0).due("night(" + MONTH + ")", 1);
    }

    private static void night() {
        CHECK.sentence("Promise 8", "1 if it is NIGHT in a MINUTE, else 0. NONE.");
        Run run = run();
        run.refuses("night(-1)", -1).due("night(0)", 1).due("night(360)", 0);
        run.due("night(719999)", 1).due("night(718920)", 0).refuses("night(720000)", -1);
        run.refuses("night(" + Integer.MIN_VALUE + ")", -1).refuses("night(" + Integer.MAX_VALUE + ")", -1);
        CHECK.sentence("Terms", "It is NIGHT in a MINUTE whose place in the DAY is less than RISE of its MONTH, or is SET of "
            + "it or more (RISE 360, SET 1080 of each at first).");
        for (int month = 0; month < 12; month++) {
            int midnight = month * MONTH + 7 * DAY;
            run.due("night(" + midnight + ")", 1).due("night(" + (midnight + 359) + ")", 1);
            run.due("night(" + (midnight + 360) + ")", 0).due("night(" + (midnight + 1079) + ")", 0);
            run.due("night(" + (midnight + 1080) + ")", 1).due("night(" + (midnight + 1439) + ")", 1);
        }
        run.due("sun(0, 100, 200)", 1).due("night(99)", 1).due("night(100)", 0).due("night(199)", 0).due("night(200)", 1);
    }

    private static void nightOfMonths() {
        CHECK.sentence("Terms", "a MONTH (DAY / 30) % 12");
        // Noon is night in month 1 alone, and in month 11.
        Run run = run().make("sun(1, 0, 0)", "sun(11, 0, 0)");
        int[] days = {0, 29, 30, 59, 60, 329, 330, 359, 360, 389, 390, 419, 420, 499};
        int[] nights = {0, 0, 1, 1, 0, 0, 1, 1, 0, 0, 1, 1, 0, 0};
        for (int i = 0; i < days.length; i++) {
            run.due("night(" + (days[i] * DAY + 720) + ")", nights[i]);
        }
        // The month goes on with the first minute of its first day.
        run.due("night(" + (30 * DAY - 1 - 720) + ")", 0).due("night(" + (30 * DAY + 360) + ")", 1);
        run.make("sun(0, 0, 1440)").due("night(" + (30 * DAY - 1) + ")", 0).due("night(" + 30 * DAY + ")", 1);
    }

    private static void nightOfDays() {
        CHECK.sentence("Terms", "a DAY has 1440 of them");
        Run run = run().make("sun(0, 5, 1440)");
        run.due("night(4)", 1).due("night(5)", 0).due("night(1439)", 0);
        run.due("night(1440)", 1).due("night(1444)", 1).due("night(1445)", 0).due("night(2879)", 0).due("night(2880)", 1);
        // The last minute of a day is of it, the next one of the day behind it.
        run.corners(1).make("coach(1, 0)").passTo(1439);
        run.due("look(0, 0)", -1).make("minutes(1)").refuses("look(0, 0)", -9).due("look(0, 1)", 0);
        run.passTo(2879).due("look(0, 1)", 1).make("minutes(1)").refuses("look(0, 1)", -9);
    }

    private static void wayNumbers() {
        CHECK.sentence("Promise 6", "YARDS of the WAY at a MINUTE (0 .. 719999). NONE; NO_WAY.");
        Run run = run().row(2, 7).make("corner()");
        run.refuses("way(-1, 0, 0)", -1).refuses("way(3, 0, 0)", -1).refuses("way(0, -1, 0)", -1);
        run.refuses("way(0, 3, 0)", -1).refuses("way(-1, -1, 0)", -1).refuses("way(3, 3, 0)", -1);
        run.refuses("way(0, 1, -1)", -1).due("way(0, 1, 0)", 7).due("way(1, 0, 719999)", 7);
        run.refuses("way(0, 1, 720000)", -1).refuses("way(0, 1, " + Integer.MIN_VALUE + ")", -1);
        run.refuses("way(0, 1, " + Integer.MAX_VALUE + ")", -1).refuses("way(" + Integer.MIN_VALUE + ", 1, 0)", -1);
        run.refuses("way(0, 2, 0)", -5).refuses("way(2, 1, 719999)", -5);
        // NONE is named ahead of NO_WAY.
        run.refuses("way(0, 2, -1)", -1).refuses("way(0, 2, 720000)", -1).refuses("way(2, 3, 0)", -1);
        // A minute that is gone may be asked for, too.
        run.passTo(50).due("way(0, 1, 0)", 7).due("way(0, 1, 49)", 7);
    }

    private static void wayToItself() {
        CHECK.sentence("Terms", "From a CORNER to itself: 0 YARDS.");
        Run run = run().row(3, 1).make("street(2, 1, 0)", "corner()");
        checkWay(run, "way(0, 0, 0)", 0, 0);
        checkWay(run, "way(2, 2, 719999)", 0, 2);
        checkWay(run, "way(3, 3, 0)", 0, 3);
        run.make("shut(0, 0, 9)", "shut(1, 0, 9)", "shut(2, 0, 9)");
        checkWay(run, "way(1, 1, 5)", 0, 1);
    }

    private static void wayOfLeastYards() {
        CHECK.sentence("Terms", "WAY between two CORNERS at a MINUTE: of all rows of STREETS that are not SHUT then, each going "
            + "on where the one ahead ended, the one with the least YARDS together");
        Run run = run().row(4, 100).make("street(3, 301, 0)");
        checkWay(run, "way(0, 3, 0)", 300, 0, 1, 2, 3);
        run.make("street(3, 299, 1)");
        checkWay(run, "way(0, 3, 0)", 299, 0, 3);
        checkWay(run, "way(3, 0, 0)", 299, 3, 0);
        run.make("shut(4, 20, 30)", "shut(1, 25, 40)");
        checkWay(run, "way(0, 3, 19)", 299, 0, 3);
        checkWay(run, "way(0, 3, 20)", 300, 0, 1, 2, 3);
        checkWay(run, "way(0, 3, 25)", 301, 0, 3);
        checkWay(run, "way(1, 2, 29)", 501, 1, 0, 3, 2);
        checkWay(run, "way(1, 2, 30)", 499, 1, 0, 3, 2);
        checkWay(run, "way(1, 2, 40)", 100, 1, 2);
        run.make("shut(0, 100, 101)", "shut(3, 100, 101)", "shut(4, 100, 101)");
        run.refuses("way(0, 3, 100)", -5).due("way(0, 3, 99)", 299).due("way(0, 3, 101)", 299);
        // The longest row that can be: each corner but the last has one street more.
        Run row = run().row(24, 2000).due("way(0, 23, 0)", 46000).due("step(23)", 23).due("step(24)", -1);
        row.due("way(23, 0, 0)", 46000).due("step(0)", 23).due("step(23)", 0);
    }

    private static void wayOfFewestBad() {
        CHECK.sentence("Terms", "of several that with the fewest BAD ones");
        Run run = run().corners(4);
        run.make("street(1, 50, 1)", "street(103, 50, 0)", "street(2, 30, 0)", "street(203, 70, 0)");
        checkWay(run, "way(0, 3, 0)", 100, 0, 2, 3);
        checkWay(run, "way(3, 0, 0)", 100, 3, 2, 0);
        run.make("street(1, 50, 0)");
        checkWay(run, "way(0, 3, 0)", 100, 0, 1, 3);
        // As many bad ones as can be weigh less than one yard.
        Run row = run().corners(24);
        for (int i = 1; i < 24; i++) {
            row.make("street(" + (100 * (i - 1) + i) + ", 1, 1)");
        }
        row.make("street(23, 24, 0)").due("way(0, 23, 0)", 23).due("step(1)", 1);
        row.make("street(23, 23, 1)").due("way(0, 23, 0)", 23).due("step(1)", 23);
        row.make("stand(0, 1)").ready(0, 1, 0).make("go(0, 0)").due("call(0, 23, 1000)", 0).due("trip(0, 7)", 1);
        row.make("street(23, 23, 0)").passTo(10).make("go(0, 0)").passTo(20);
        row.due("call(0, 23, 1000)", 1).due("trip(1, 7)", 0);
    }

    private static void wayOfFirstCorners() {
        CHECK.sentence("Terms", "of several the one whose CORNERS come first (the first that differs being less; a row of "
            + "CORNERS that ends there is first)");
        // Rows of 30 yards from 0 to 4: 0 4; 0 3 4; 0 2 3 4; 0 1 3 4; each of later told ones comes first.
        Run run = run().corners(5).make("street(4, 30, 0)");
        checkWay(run, "way(0, 4, 0)", 30, 0, 4);
        run.make("street(3, 20, 0)", "street(304, 10, 0)");
        checkWay(run, "way(0, 4, 0)", 30, 0, 3, 4);
        run.make("street(2, 10, 0)", "street(203, 10, 0)");
        checkWay(run, "way(0, 4, 0)", 30, 0, 2, 3, 4);
        run.make("street(204, 20, 0)");
        checkWay(run, "way(0, 4, 0)", 30, 0, 2, 3, 4);
        run.make("street(1, 19, 0)", "street(104, 11, 0)");
        checkWay(run, "way(0, 4, 0)", 30, 0, 1, 4);
        // Seen from the other end another row comes first.
        checkWay(run, "way(4, 0, 0)", 30, 4, 0);
        checkWay(run, "way(4, 3, 0)", 10, 4, 3);
        checkWay(run, "way(3, 0, 0)", 20, 3, 0);
        // A row that is shut then does not come first, nor is it gone in part.
        run.make("shut(7, 10, 20)");
        checkWay(run, "way(0, 4, 9)", 30, 0, 1, 4);
        checkWay(run, "way(0, 4, 10)", 30, 0, 2, 3, 4);
        checkWay(run, "way(0, 4, 20)", 30, 0, 1, 4);
        Run pair = run().corners(4).make("street(1, 50, 0)", "street(2, 50, 0)", "street(103, 50, 0)", "street(203, 50, 0)");
        pair.make("shut(0, 10, 20)", "shut(2, 30, 40)");
        checkWay(pair, "way(0, 3, 9)", 100, 0, 1, 3);
        checkWay(pair, "way(0, 3, 10)", 100, 0, 2, 3);
        checkWay(pair, "way(0, 3, 39)", 100, 0, 2, 3);
        checkWay(pair, "way(3, 0, 19)", 100, 3, 2, 0);
        checkWay(pair, "way(0, 3, 40)", 100, 0, 1, 3);
        // As no street has 0 yards, a row that ends ahead of a like one has fewer yards but for the row of one corner.
        checkWay(run, "way(4, 4, 0)", 0, 4);
    }

    private static void steps() {
        CHECK.sentence("Promise 7", "The i-th CORNER (0 the first one itself) of the WAY that way() told last (with YARDS). "
            + "NONE.");
        Run run = run().row(4, 10).make("corner()", "stand(1, 1)").ready(0, 1, 3);
        run.refuses("step(0)", -1).make("go(0, 0)").refuses("step(0)", -1).passTo(1);
        checkWay(run, "way(0, 2, 0)", 20, 0, 1, 2);
        run.refuses("step(3)", -1).refuses("step(-1)", -1).refuses("step(4)", -1);
        run.refuses("step(" + Integer.MIN_VALUE + ")", -1).refuses("step(" + Integer.MAX_VALUE + ")", -1);
        // A way that was refused, and those that other calls go by, tell nothing to step().
        run.refuses("way(1, 4, 0)", -5).refuses("way(1, 9, 0)", -1).refuses("way(1, 0, 720000)", -1);
        run.make("why(0, 3, 0, 1000)", "call(3, 0, 1000)", "minutes(5)", "go(0, 0)");
        run.due("step(0)", 0).due("step(1)", 1).due("step(2)", 2).due("step(3)", -1);
        checkWay(run, "way(3, 3, 0)", 0, 3);
        Run row = run().row(24, 1).due("way(23, 0, 0)", 23);
        for (int i = 0; i < 24; i++) {
            row.due("step(" + i + ")", 23 - i);
        }
        row.refuses("step(24)", -1);
    }
}
