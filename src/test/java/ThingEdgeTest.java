/** The sentences of promises 26 to 33, and those of 'Terms' on complaints, things and laws tried, that name an edge. */
public final class ThingEdgeTest {
    private static final int DAY = 1440;
    private static final int MIN = Integer.MIN_VALUE;
    private static final int MAX = Integer.MAX_VALUE;
    private static final int UNKNOWN = 14640;
    private static final Check CHECK = new Check();

    private ThingEdgeTest() {
    }

    public static void main(String[] args) {
        complainPaid();
        complainThere();
        overBounds();
        overOwnDay();
        likeYards();
        likeNight();
        likeWeekday();
        likePersons();
        likeMadeAhead();
        likeOver();
        judgedNumbers();
        lostSorts();
        lostPlates();
        lostSpans();
        lostFull();
        foundNumbers();
        foundFull();
        fitsNumbers();
        fitsSort();
        fitsMinute();
        fitsDigits();
        fitsZeroAhead();
        fitsTrip();
        fitsSpan();
        fitsSeveralTrips();
        joinedNumbers();
        joinedEachOther();
        triedLaws();
        triedDays();
        triedFares();
        triedInPlace();
        counts();
        CHECK.end();
    }

    /** Two corners, 110 yards apart, a stand at corner 0, and a coach that stands there. */
    private static Run run() {
        return new Run(CHECK).row(2, 110).make("stand(0, 10)").ready(0, 7, 0).make("go(0, 0)");
    }

    /** The same with trip 0, called for in minute 10, its end in minute 20. */
    private static Run runWithTrip() {
        return run().passTo(10).due("call(0, 1, 1009)", 0).due("trip(0, 5)", 20);
    }

    private static int plate(int a, int b, int c, int d) {
        return ((a * 11 + b) * 11 + c) * 11 + d;
    }

    private static void checkJudged(Run run, int complaint, int... facts) {
        for (int what = 0; what < facts.length; what++) {
            run.due("judged(" + complaint + ", " + what + ")", facts[what]);
        }
    }

    /** The next lost thing of sort 0, and how many found ones fit it. */
    private static void checkFits(Run run, int plate, int from, int to, int due) {
        int lost = run.ask("count(10)");
        run.due("lost(0, " + plate + ", " + from + ", " + to + ")", lost).due("fits(" + lost + ")", due);
    }

    private static void complainPaid() {
        CHECK.sentence("Promise 26", "A COMPLAINT: its number. NONE (paid 0 .. 1000000)");
        Run run = runWithTrip().refuses("complain(0, -1)", -1).refuses("complain(0, 1000001)", -1);
        run.refuses("complain(0, " + MIN + ")", -1).refuses("complain(0, " + MAX + ")", -1).due("complain(0, 0)", 0);
        run.due("judged(0, 1)", 0).passTo(20).make("go(0, 0)", "minutes(1)").due("call(0, 1, 1000)", 1);
        run.refuses("complain(1, -1)", -1).refuses("complain(1, 1000001)", -1).due("complain(1, 1000000)", 1);
        run.due("judged(1, 1)", 1000000).due("judged(1, 2)", 1000000);
        for (int wrong : new int[] {-1, 2, 300, MIN, MAX}) {
            run.refuses("complain(" + wrong + ", 5)", -1);
        }
    }

    private static void complainThere() {
        CHECK.sentence("Promise 26", "THERE: the TRIP has one.");
        Run run = runWithTrip().due("complain(0, 5)", 0).refuses("complain(0, 5)", -4).refuses("complain(0, 6)", -4);
        run.due("judged(0, 1)", 5).due("count(7)", 1);
        // NONE is named ahead of THERE.
        run.refuses("complain(0, -1)", -1).refuses("complain(0, 1000001)", -1).passTo(20).make("go(0, 0)", "minutes(1)");
        run.due("call(0, 1, 1000)", 1).due("complain(1, 5)", 1).refuses("complain(0, 5)", -4).refuses("complain(1, 5)", -4);
    }

    private static void overBounds() {
        CHECK.sentence("Terms", "OVER: what PAID is above it (0 at least; all, if there is none).");
        int[] paid = {0, 9, 10, 11, 1000000};
        int[] over = {0, 0, 0, 1, 999990};
        for (int i = 0; i < paid.length; i++) {
            Run run = runWithTrip().due("complain(0, " + paid[i] + ")", 0).due("judged(0, 2)", paid[i]).law(2, "3");
            run.due("judged(0, 2)", paid[i]).law(0, "10").due("judged(0, 2)", over[i]).law(1, "0");
            run.due("judged(0, 2)", paid[i]).law(1, "99999*99").law(0, "99999*99").due("judged(0, 2)", 0);
        }
    }

    private static void overOwnDay() {
        CHECK.sentence("Terms", "it is JUDGED by DUE AS KNOWN on the TRIP's own DAY");
        Run run = run().tape("8").make("law(0, 1)").passTo(2 * DAY - 1).due("call(0, 1, 1000)", 0).due("complain(0, 10)", 0);
        run.due("judged(0, 2)", 2).law(0, "7").due("judged(0, 2)", 3).make("minutes(1)").law(0, "6").due("judged(0, 2)", 3);
        run.due("due(0, 2, 0)", 6).passTo(9 * DAY).law(1, "1").due("judged(0, 2)", 3).due("due(0, 9, 0)", 1);
        // Without a law on that day, all that was paid.
        Run none = run().tape("8").make("law(0, 1)").passTo(DAY - 1).due("call(0, 1, 1000)", 0).make("minutes(1)");
        none.law(0, "8").due("complain(0, 10)", 0).due("judged(0, 2)", 10).due("due(0, 1, 0)", 8);
    }

    private static void likeYards() {
        CHECK.sentence("Terms", "LIKE CASES: COMPLAINTS made ahead of it of TRIPS with the same YARDS / 1000, NIGHT or not, "
            + "WEEKDAY, and number of persons.");
        int[] yards = {1, 999, 1000, 1001, 1999, 2000};
        int[] like = {0, 1, 0, 1, 2, 0};
        int[] latest = {-1, 0, -1, 2, 3, -1};
        Run run = new Run(CHECK).corners(7).make("stand(0, 10)");
        for (int i = 0; i < yards.length; i++) {
            run.make("street(" + (i + 1) + ", " + yards[i] + ", " + i % 2 + ")").ready(i, i + 1, 0).make("go(" + i + ", 0)");
        }
        for (int i = 0; i < yards.length; i++) {
            // Waiting, bad streets, coach and what was paid may be unlike.
            run.due("call(0, " + (i + 1) + ", " + (1000 + i) + ")", i).due("complain(" + i + ", " + i + ")", i);
        }
        for (int i = 0; i < yards.length; i++) {
            run.due("judged(" + i + ", 3)", like[i]).due("judged(" + i + ", 4)", latest[i]);
        }
    }

    private static void likeNight() {
        CHECK.sentence("Terms", "NIGHT or not");
        int[] minutes = {0, 359, 360, 1079, 1080, 1439};
        int[] like = {0, 1, 0, 1, 2, 3};
        int[] latest = {-1, 0, -1, 2, 1, 4};
        Run run = run();
        for (int i = 1; i < 6; i++) {
            run.ready(i, i + 100, 0).make("go(" + i + ", 0)");
        }
        for (int i = 0; i < minutes.length; i++) {
            run.passTo(minutes[i]).due("call(0, 1, 1000)", i).due("complain(" + i + ", 0)", i);
        }
        for (int i = 0; i < minutes.length; i++) {
            run.due("judged(" + i + ", 3)", like[i]).due("judged(" + i + ", 4)", latest[i]);
        }
        // By NIGHT as it was told by then.
        run.make("sun(0, 0, 1440)").due("judged(5, 3)", 3).due("judged(3, 3)", 1);
    }

    private static void likeWeekday() {
        CHECK.sentence("Terms", "a WEEKDAY is DAY % 7");
        int[] days = {0, 1, 6, 7, 8, 13, 14};
        int[] like = {0, 0, 0, 1, 1, 1, 2};
        int[] latest = {-1, -1, -1, 0, 1, 2, 3};
        Run run = run();
        for (int i = 1; i < 7; i++) {
            run.ready(i, i + 100, 0).make("go(" + i + ", 0)");
        }
        for (int i = 0; i < days.length; i++) {
            run.passTo((days[i] + 1) * DAY - 1).due("call(0, 1, 1000)", i).due("complain(" + i + ", 0)", i);
        }
        for (int i = 0; i < days.length; i++) {
            run.due("judged(" + i + ", 3)", like[i]).due("judged(" + i + ", 4)", latest[i]);
        }
    }

    private static void likePersons() {
        CHECK.sentence("Terms", "and number of persons.");
        int[] persons = {1, 2, 6, 1, 5, 6, 1};
        int[] like = {0, 0, 0, 1, 0, 1, 2};
        int[] latest = {-1, -1, -1, 0, -1, 2, 3};
        Run run = run();
        for (int i = 1; i < 7; i++) {
            run.ready(i, i + 100, 0).make("go(" + i + ", 0)");
        }
        for (int i = 0; i < persons.length; i++) {
            run.due("call(0, 1, " + persons[i] * 1000 + ")", i).due("complain(" + i + ", 0)", i);
        }
        for (int i = 0; i < persons.length; i++) {
            run.due("judged(" + i + ", 3)", like[i]).due("judged(" + i + ", 4)", latest[i]);
        }
    }

    private static void likeMadeAhead() {
        CHECK.sentence("Terms", "COMPLAINTS made ahead of it");
        Run run = run().ready(1, 2, 0).ready(2, 3, 0).make("go(1, 0)", "go(2, 0)");
        run.due("call(0, 1, 1000)", 0).due("call(0, 1, 1000)", 1).due("call(0, 1, 1000)", 2);
        // Neither itself, nor a trip without a complaint, nor one of a later complaint, though its trip was ahead.
        run.due("complain(2, 7)", 0);
        checkJudged(run, 0, 2, 7, 7, 0, -1, 0);
        run.due("complain(0, 0)", 1);
        checkJudged(run, 1, 0, 0, 0, 1, 0, 1);
        checkJudged(run, 0, 2, 7, 7, 0, -1, 0);
        run.due("complain(1, 5)", 2);
        checkJudged(run, 2, 1, 5, 5, 2, 1, 1);
        checkJudged(run, 1, 0, 0, 0, 1, 0, 1);
    }

    private static void likeOver() {
        CHECK.sentence("Promise 27", "Of a COMPLAINT: 0 TRIP, 1 PAID, 2 OVER, 3 how many LIKE CASES, 4 the latest of these (-1), "
            + "5 how many of them were judged OVER more than 0.");
        Run run = run().law(0, "10");
        int[] paid = {9, 10, 11, 12, 20, 0};
        int[] over = {0, 0, 0, 1, 2, 3};
        for (int i = 1; i < paid.length; i++) {
            run.ready(i, i + 100, 0).make("go(" + i + ", 0)");
        }
        for (int i = 0; i < paid.length; i++) {
            run.due("call(0, 1, 1000)", i).due("complain(" + i + ", " + paid[i] + ")", i);
        }
        for (int i = 0; i < paid.length; i++) {
            checkJudged(run, i, i, paid[i], Math.max(0, paid[i] - 10), i, i - 1, over[i]);
        }
        // The case itself does not count, nor one that is no like case.
        run.make("minutes(400)", "go(0, 0)", "minutes(1)").due("call(0, 1, 1000)", 6).due("complain(6, 99)", 6);
        checkJudged(run, 6, 6, 99, 89, 0, -1, 0);
        Run none = run().ready(1, 2, 0).make("go(1, 0)").due("call(0, 1, 1000)", 0).due("call(0, 1, 1000)", 1);
        none.due("complain(0, 0)", 0).due("complain(1, 1)", 1);
        checkJudged(none, 1, 1, 1, 1, 1, 0, 0);
    }

    private static void judgedNumbers() {
        CHECK.sentence("Promise 27", "-9: NONE.");
        Run run = runWithTrip().refuses("judged(0, 0)", -9).due("complain(0, 5)", 0);
        for (int wrong : new int[] {-1, 6, MIN, MAX}) {
            run.refuses("judged(0, " + wrong + ")", -9);
        }
        for (int wrong : new int[] {-1, 1, 300, MIN, MAX}) {
            run.refuses("judged(" + wrong + ", 0)", -9);
        }
        checkJudged(run, 0, 0, 5, 5, 0, -1, 0);
    }

    private static void lostSorts() {
        CHECK.sentence("Terms", "a SORT (0 .. 9)");
        Run run = runWithTrip();
        for (int sort = 0; sort <= 9; sort++) {
            run.due("found(" + sort + ", 0)", sort).due("lost(" + sort + ", " + UNKNOWN + ", 0, 10)", sort);
            run.due("fits(" + sort + ")", 1).due("joined(" + sort + ")", sort);
        }
        for (int wrong : new int[] {-1, 10, MIN, MAX}) {
            run.refuses("lost(" + wrong + ", " + UNKNOWN + ", 0, 10)", -1).refuses("found(" + wrong + ", 0)", -1);
        }
    }

    private static void lostPlates() {
        CHECK.sentence("Promise 28", "plate: four digits of base 11 (10: not known), the first the highest");
        Run run = new Run(CHECK).row(2, 110).make("stand(0, 1)").ready(0, 1234, 0).make("go(0, 0)", "call(0, 1, 1000)");
        run.make("found(0, 0)").refuses("lost(0, -1, 0, 0)", -1).refuses("lost(0, 14641, 0, 0)", -1);
        run.refuses("lost(0, " + MIN + ", 0, 0)", -1).refuses("lost(0, " + MAX + ", 0, 0)", -1);
        checkFits(run, 0, 0, 0, 0);
        checkFits(run, UNKNOWN, 0, 0, 1);
        checkFits(run, plate(1, 2, 3, 4), 0, 0, 1);
        checkFits(run, plate(4, 3, 2, 1), 0, 0, 0);
        checkFits(run, plate(1, 10, 10, 10), 0, 0, 1);
        checkFits(run, plate(10, 2, 10, 10), 0, 0, 1);
        checkFits(run, plate(10, 10, 3, 10), 0, 0, 1);
        checkFits(run, plate(10, 10, 10, 4), 0, 0, 1);
        checkFits(run, plate(10, 10, 10, 1), 0, 0, 0);
        checkFits(run, plate(10, 10, 10, 9), 0, 0, 0);
        checkFits(run, plate(9, 10, 10, 10), 0, 0, 0);
    }

    private static void lostSpans() {
        CHECK.sentence("Promise 28", "from, to: the span (from at most to). NONE, FULL.");
        Run run = runWithTrip().refuses("lost(0, 0, 6, 5)", -1).due("lost(0, 0, 5, 5)", 0).due("lost(0, 0, 5, 6)", 1);
        run.refuses("lost(0, 0, -1, 5)", -1).refuses("lost(0, 0, -1, -1)", -1).due("lost(0, 0, 0, 0)", 2);
        run.refuses("lost(0, 0, 5, 720000)", -1).refuses("lost(0, 0, 720000, 720000)", -1);
        run.due("lost(0, 0, 719999, 719999)", 3).due("lost(0, 0, 0, 719999)", 4).refuses("lost(0, 0, 719999, 0)", -1);
        for (int wrong : new int[] {MIN, MAX}) {
            run.refuses("lost(0, 0, " + wrong + ", 5)", -1).refuses("lost(0, 0, 5, " + wrong + ")", -1);
            run.refuses("lost(0, 0, " + wrong + ", " + wrong + ")", -1);
        }
        run.due("count(10)", 5);
    }

    private static void lostFull() {
        CHECK.sentence("Terms", "LOST THINGS 0 .. 59");
        Run run = runWithTrip().make("found(3, 0)");
        for (int i = 0; i < 60; i++) {
            run.refuses("fits(" + i + ")", -1).due("lost(" + (i == 59 ? 3 : 4) + ", " + UNKNOWN + ", 0, 10)", i);
            run.due("count(10)", i + 1);
        }
        run.due("fits(59)", 1).due("joined(59)", 0).due("fits(58)", 0);
        CHECK.sentence("Promise 28", "A LOST THING: its number.");
        run.refuses("lost(3, " + UNKNOWN + ", 0, 10)", -2).refuses("lost(0, 0, 0, 0)", -2).due("count(10)", 60);
        run.due("joined(59)", 0).refuses("fits(60)", -1).refuses("joined(60)", -1);
        // NONE is named ahead of FULL.
        run.refuses("lost(10, 0, 0, 0)", -1).refuses("lost(0, 14641, 0, 0)", -1).refuses("lost(0, 0, 1, 0)", -1);
        run.refuses("lost(-1, 0, 0, 0)", -1).refuses("lost(0, -1, 0, 0)", -1).refuses("lost(0, 0, 0, 720000)", -1);
    }

    private static void foundNumbers() {
        CHECK.sentence("Promise 29", "A FOUND THING, in this MINUTE: its number. NONE, FULL.");
        Run run = runWithTrip();
        for (int wrong : new int[] {-1, 10, MIN, MAX}) {
            run.refuses("found(" + wrong + ", 0)", -1);
        }
        for (int wrong : new int[] {-1, 1, 30, MIN, MAX}) {
            run.refuses("found(0, " + wrong + ")", -1);
        }
        run.due("found(0, 0)", 0).due("found(9, 0)", 1).due("found(0, 0)", 2).due("count(11)", 3);
        // In this minute, 10: not ahead of a span from 10, and ahead of one from 11.
        checkFits(run, UNKNOWN, 10, 19, 2);
        checkFits(run, UNKNOWN, 11, 19, 0);
        run.make("minutes(1)").due("found(0, 0)", 3).due("fits(1)", 1).due("fits(0)", 3).due("joined(1)", -9);
        // Any coach may be told, also one that was never on a trip.
        run.make("coach(8, 1)").due("found(0, 1)", 4).due("fits(0)", 3);
    }

    private static void foundFull() {
        CHECK.sentence("Terms", "FOUND THINGS 0 .. 59: a SORT, a COACH, a MINUTE.");
        Run run = runWithTrip().make("lost(5, 14640, 0, 10)");
        for (int i = 0; i < 60; i++) {
            run.due("found(5, 0)", i).due("count(11)", i + 1).due("fits(0)", i + 1).due("joined(0)", i == 0 ? 0 : -9);
        }
        CHECK.sentence("Promise 29", "NONE, FULL.");
        run.refuses("found(5, 0)", -2).refuses("found(0, 0)", -2).due("fits(0)", 60).due("count(11)", 60);
        // NONE is named ahead of FULL.
        run.refuses("found(10, 0)", -1).refuses("found(-1, 0)", -1).refuses("found(5, 1)", -1).refuses("found(5, -1)", -1);
    }

    private static void fitsNumbers() {
        CHECK.sentence("Promise 31", "How many FOUND ones FIT a LOST one. NONE.");
        Run run = runWithTrip().refuses("fits(0)", -1).make("lost(0, 14640, 0, 10)").due("fits(0)", 0);
        run.make("found(0, 0)").due("fits(0)", 1).make("found(0, 0)").due("fits(0)", 2);
        for (int wrong : new int[] {-1, 1, 60, MIN, MAX}) {
            run.refuses("fits(" + wrong + ")", -1);
        }
    }

    private static void fitsSort() {
        CHECK.sentence("Terms", "A FOUND one FITS a LOST one if the SORTS are one");
        Run run = runWithTrip().make("found(0, 0)", "found(8, 0)", "found(9, 0)", "lost(9, 14640, 0, 10)");
        run.due("fits(0)", 1).due("joined(0)", 2).make("lost(0, 14640, 0, 10)", "lost(8, 14640, 0, 10)");
        run.due("joined(1)", 0).due("joined(2)", 1).make("lost(1, 14640, 0, 10)").due("fits(3)", 0).due("joined(3)", -9);
    }

    private static void fitsMinute() {
        CHECK.sentence("Terms", "the MINUTE is not ahead of the span");
        // The trip is in the minutes 10 .. 19; the thing was found in minute 12.
        Run run = runWithTrip().passTo(12).make("found(0, 0)");
        checkFits(run, UNKNOWN, 12, 12, 1);
        checkFits(run, UNKNOWN, 13, 13, 0);
        checkFits(run, UNKNOWN, 13, 99, 0);
        checkFits(run, UNKNOWN, 12, 99, 1);
        checkFits(run, UNKNOWN, 11, 11, 1);
        checkFits(run, UNKNOWN, 0, 719999, 1);
        checkFits(run, UNKNOWN, 719999, 719999, 0);
        run.passTo(13).make("found(0, 0)").due("fits(1)", 1).due("fits(0)", 2).due("fits(2)", 1).due("fits(3)", 2);
        // One found long behind the span fits, too.
        run.passTo(5 * DAY).make("found(0, 0)").due("fits(1)", 2).due("fits(4)", 3);
    }

    private static void fitsDigits() {
        CHECK.sentence("Terms", "a PLATE as far as it is known: four digits, each 0 .. 9, or 10: not known.");
        Run run = new Run(CHECK).row(2, 110).make("stand(0, 10)");
        int[] plates = {9999, 909, 9090, 1000};
        for (int i = 0; i < plates.length; i++) {
            run.ready(i, plates[i], 0).make("go(" + i + ", 0)").due("call(0, 1, 1000)", i).make("found(0, " + i + ")");
        }
        checkFits(run, plate(9, 9, 9, 9), 0, 0, 1);
        checkFits(run, plate(0, 9, 0, 9), 0, 0, 1);
        checkFits(run, plate(9, 0, 9, 0), 0, 0, 1);
        checkFits(run, plate(1, 0, 0, 0), 0, 0, 1);
        checkFits(run, plate(9, 10, 10, 10), 0, 0, 2);
        checkFits(run, plate(10, 9, 10, 10), 0, 0, 2);
        checkFits(run, plate(10, 10, 9, 10), 0, 0, 2);
        checkFits(run, plate(10, 10, 10, 9), 0, 0, 2);
        checkFits(run, plate(10, 0, 10, 0), 0, 0, 2);
        checkFits(run, plate(10, 10, 10, 10), 0, 0, 4);
        checkFits(run, plate(9, 9, 9, 8), 0, 0, 0);
        checkFits(run, plate(8, 9, 9, 9), 0, 0, 0);
    }

    private static void fitsZeroAhead() {
        CHECK.sentence("Terms", "the known digits are those of the PLATE (four digits, 0 ahead)");
        int[] plates = {1, 12, 123, 10};
        int[] told = {plate(0, 0, 0, 1), plate(0, 0, 1, 2), plate(0, 1, 2, 3), plate(0, 0, 1, 0)};
        for (int i = 0; i < plates.length; i++) {
            Run run = new Run(CHECK).row(2, 110).make("stand(0, 1)").ready(0, plates[i], 0).make("go(0, 0)");
            run.make("call(0, 1, 1000)", "found(0, 0)");
            for (int other = 0; other < told.length; other++) {
                checkFits(run, told[other], 0, 0, other == i ? 1 : 0);
            }
            checkFits(run, plate(0, 10, 10, 10), 0, 0, 1);
            checkFits(run, plate(1, 10, 10, 10), 0, 0, 0);
            checkFits(run, plate(10, 0, 10, 10), 0, 0, plates[i] < 100 ? 1 : 0);
            checkFits(run, plate(10, 10, 0, 10), 0, 0, plates[i] < 10 ? 1 : 0);
            checkFits(run, plate(10, 10, 10, 0), 0, 0, plates[i] == 10 ? 1 : 0);
        }
    }

    private static void fitsTrip() {
        CHECK.sentence("Terms", "and the COACH was on a TRIP (from the CALL's MINUTE on, the MINUTE of its end not counted) in "
            + "some MINUTE of the span.");
        // The trip is in the minutes 10 .. 19; another coach drives later, in 30 .. 39.
        Run run = runWithTrip().ready(1, 8, 0).make("go(1, 0)").passTo(30).due("call(0, 1, 1009)", 1).passTo(50);
        run.make("found(0, 0)");
        int[][] spans = {{9, 9, 0}, {10, 10, 1}, {15, 15, 1}, {19, 19, 1}, {20, 20, 0}, {0, 9, 0}, {0, 10, 1}, {9, 10, 1},
            {19, 20, 1}, {20, 49, 0}, {19, 49, 1}, {0, 719999, 1}, {12, 14, 1}, {10, 19, 1}, {30, 39, 0}, {0, 0, 0}};
        for (int[] span : spans) {
            checkFits(run, UNKNOWN, span[0], span[1], span[2]);
        }
        // The way to the caller is of the trip, and the waiting.
        Run far = run().make("call(1, 0, 1005)").due("trip(0, 4)", 1).due("trip(0, 5)", 7).passTo(9);
        far.make("found(0, 0)");
        checkFits(far, UNKNOWN, 0, 0, 1);
        checkFits(far, UNKNOWN, 6, 6, 1);
        checkFits(far, UNKNOWN, 7, 9, 0);
    }

    private static void fitsSpan() {
        CHECK.sentence("Terms", "the span of MINUTES in which it was lost");
        // Both of its ends are of the span; the trip is in the minutes 10 .. 19.
        Run run = runWithTrip().passTo(30).make("found(0, 0)");
        checkFits(run, UNKNOWN, 8, 9, 0);
        checkFits(run, UNKNOWN, 8, 10, 1);
        checkFits(run, UNKNOWN, 19, 21, 1);
        checkFits(run, UNKNOWN, 20, 21, 0);
        // What is told is the thing's own: the same span may be of several, and another one changes none.
        run.due("fits(0)", 0).due("fits(1)", 1).due("fits(2)", 1).due("fits(3)", 0);
    }

    private static void fitsSeveralTrips() {
        CHECK.sentence("Terms", "the COACH was on a TRIP");
        Run run = runWithTrip().passTo(20).make("go(0, 0)").passTo(40).due("call(0, 1, 1009)", 1).passTo(60);
        run.make("found(0, 0)");
        checkFits(run, UNKNOWN, 21, 39, 0);
        checkFits(run, UNKNOWN, 21, 40, 1);
        checkFits(run, UNKNOWN, 49, 55, 1);
        checkFits(run, UNKNOWN, 50, 55, 0);
        checkFits(run, UNKNOWN, 10, 40, 1);
        checkFits(run, UNKNOWN, 60, 60, 0);
        // A trip of the span that is called for when the thing is found already counts as any other.
        Run later = run().passTo(5).make("found(0, 0)", "lost(0, 14640, 0, 30)", "lost(0, 14640, 0, 9)").due("fits(0)", 0);
        later.passTo(10).due("fits(0)", 0).due("call(0, 1, 1009)", 0).due("fits(0)", 1).due("fits(1)", 0).due("joined(0)", 0);
        // Of a coach that goes, stands or rests it is none.
        Run none = run().make("go(0, -1)", "found(0, 0)");
        checkFits(none, UNKNOWN, 0, 719999, 0);
    }

    private static void joinedNumbers() {
        CHECK.sentence("Promise 30", "The FOUND one with which a LOST one is JOINED; -9: none. NONE.");
        Run run = runWithTrip().refuses("joined(0)", -1).make("lost(4, 14640, 0, 10)").due("joined(0)", -9);
        run.make("found(3, 0)").due("joined(0)", -9).make("found(4, 0)").due("joined(0)", 1);
        for (int wrong : new int[] {-1, 1, 60, MIN, MAX}) {
            run.refuses("joined(" + wrong + ")", -1);
        }
    }

    private static void joinedEachOther() {
        CHECK.sentence("Terms", "JOINED are a LOST and a FOUND one if each FITS the other and no other one.");
        // Two that are found fit one that is lost.
        Run found = runWithTrip().make("lost(0, 14640, 0, 10)", "found(0, 0)").due("joined(0)", 0).make("found(0, 0)");
        found.due("joined(0)", -9).due("fits(0)", 2);
        // Two that are lost are fitted by one that is found.
        Run lost = runWithTrip().make("lost(0, 14640, 0, 10)", "found(0, 0)").due("joined(0)", 0);
        lost.make("lost(0, 14640, 0, 19)").due("joined(0)", -9).due("joined(1)", -9).due("fits(0)", 1).due("fits(1)", 1);
        // A chain: lost 0 is fitted by found 0 alone, found 1 fits lost 1 alone, found 0 fits both.
        Run chain = runWithTrip().make("lost(0, 14640, 10, 10)", "lost(0, 14640, 11, 19)").passTo(12).make("found(0, 0)");
        chain.due("joined(0)", -9).due("joined(1)", -9);
        Run both = runWithTrip().make("found(0, 0)").passTo(15).make("found(0, 0)", "lost(0, 14640, 15, 15)");
        both.due("joined(0)", 1).make("lost(0, 14640, 9, 10)").due("fits(1)", 2).due("joined(1)", -9).due("joined(0)", -9);
        // What does not fit hinders nothing.
        Run other = runWithTrip().make("lost(0, 14640, 0, 10)", "found(0, 0)", "found(1, 0)", "lost(1, 14640, 0, 9)");
        other.due("joined(0)", 0).due("joined(1)", -9).make("lost(0, 0, 0, 10)").due("joined(0)", 0).due("joined(2)", -9);
    }

    private static void triedLaws() {
        CHECK.sentence("Promise 32", "TRIED: all together, at most 2000000000. NONE: a is no FARE LAW by distance (or -1), b none "
            + "by time, from above to (DAYS 0 .. 9999).");
        Run run = runWithTrip().law(0, "5").law(1, "4").law(2, "p-1");
        run.due("tried(-1, -1, 9999)", 0).due("tried(0, -1, 9999)", 5).due("tried(-1, 1, 9999)", 4).due("tried(0, 1, 9999)", 4);
        for (int wrong : new int[] {-2, 1, 2, 3, 40, MIN, MAX}) {
            run.refuses("tried(" + wrong + ", -1, 9999)", -1).refuses("tried(" + wrong + ", 1, 9999)", -1);
        }
        for (int wrong : new int[] {-2, 0, 2, 3, 40, MIN, MAX}) {
            run.refuses("tried(-1, " + wrong + ", 9999)", -1).refuses("tried(0, " + wrong + ", 9999)", -1);
        }
        // As no trip gives more than 1000000, and no more than 300 are kept, 2000000000 is never come to.
        run.law(0, "99999*20000").due("tried(3, -1, 0)", 1000000).passTo(20).make("go(0, 0)", "minutes(1)");
        run.due("call(0, 1, 1000)", 1).due("tried(3, -1, 0)", 2000000);
    }

    private static void triedDays() {
        CHECK.sentence("Promise 32", "days: 10000 times the first DAY, and the last one.");
        // Trips in the last minute of day 4, and in the first one of day 5.
        Run run = run().ready(1, 8, 0).make("go(1, 0)").law(0, "d+w*10").passTo(5 * DAY - 1);
        run.due("call(0, 1, 1010)", 0).make("minutes(1)").due("call(0, 1, 1020)", 1);
        run.due("tried(0, -1, 9999)", 104 + 205).due("tried(0, -1, 3)", 0).due("tried(0, -1, 4)", 104);
        run.due("tried(0, -1, 5)", 309).due("tried(0, -1, 40004)", 104).due("tried(0, -1, 50005)", 205);
        run.due("tried(0, -1, 40005)", 309).due("tried(0, -1, 30004)", 104).due("tried(0, -1, 59999)", 205);
        run.due("tried(0, -1, 60006)", 0).due("tried(0, -1, 69999)", 0).due("tried(0, -1, 0)", 0);
        run.refuses("tried(0, -1, 50004)", -1).refuses("tried(0, -1, 10000)", -1).due("tried(0, -1, 99999999)", 0);
        run.refuses("tried(0, -1, 99999998)", -1).refuses("tried(0, -1, 100000000)", -1);
        run.refuses("tried(0, -1, 100009999)", -1).refuses("tried(0, -1, -1)", -1).refuses("tried(0, -1, -10000)", -1);
        run.refuses("tried(0, -1, " + MIN + ")", -1).refuses("tried(0, -1, " + MAX + ")", -1);
    }

    private static void triedFares() {
        CHECK.sentence("Terms", "FARE of all TRIPS that began on DAYS a to b, together (those without FARE 0).");
        Run run = run().ready(1, 8, 0).make("go(1, 0)").law(0, "p*10").law(1, "24").due("tried(0, 1, 9999)", 0);
        run.due("call(0, 1, 2000)", 0).due("call(0, 1, 3000)", 1).due("tried(0, -1, 0)", 50).due("tried(-1, 1, 0)", 48);
        run.due("tried(0, 1, 0)", 44).due("tried(-1, -1, 0)", 0).law(0, "p-4").due("tried(2, -1, 0)", 0).law(1, "0");
        run.due("tried(0, 3, 0)", 0).law(0, "10-5*p").due("tried(4, -1, 0)", 0).law(0, "9-3*p").due("tried(5, -1, 0)", 3);
    }

    private static void triedInPlace() {
        CHECK.sentence("Terms", "TRIED: LAWS of told numbers (one for each FARE KIND, or -1: none) in place of those in force");
        // Neither when a law was made nor from which day it is in force is asked.
        Run run = run().law(0, "1").law(1, "1").due("call(0, 1, 1000)", 0).passTo(3 * DAY).tape("7").make("law(0, 9999)");
        run.tape("8").make("law(1, 3)").due("tried(2, 3, 0)", 7).due("tried(-1, 3, 0)", 8).due("tried(2, -1, 0)", 7);
        run.due("tried(0, 3, 0)", 1).due("tried(-1, -1, 0)", 0).due("due(0, 3, 0)", 1);
        run.refuses("tried(2, 3, 0)", 7);
    }

    private static void counts() {
        CHECK.sentence("Promise 33", "How many: 0 CORNERS, 1 STREETS, 2 COACHES, 3 STANDS, 4 LAWS, 5 TRIPS, 6 REFUSALS noted, 7 "
            + "COMPLAINTS, 8 MINUTE, 9 bytes on THE TAPE, 10 LOST, 11 FOUND, 12 LICENCES. NONE.");
        Run run = new Run(CHECK).corners(3).make("street(1, 1, 0)", "street(2, 1, 0)", "coach(1, 0)", "coach(2, 0)");
        run.make("stand(0, 4)", "licence(0, 0, 0)", "licence(0, 1, 0)", "licence(1, 1, 0)", "look(0, 5)", "go(0, 0)");
        run.law(2, "p=2").law(0, "1").law(1, "1").due("call(0, 1, 2000)", -3).due("call(0, 1, 2000)", -3).make("minutes(1439)");
        run.due("call(0, 1, 1000)", 0).make("complain(0, 1)", "lost(0, 0, 0, 0)", "found(0, 0)", "found(0, 0)").tape("12345");
        int[] counts = {3, 2, 2, 1, 3, 1, 2, 1, 1439, 5, 1, 2, 3};
        for (int what = 0; what < counts.length; what++) {
            run.due("count(" + what + ")", counts[what]);
        }
        for (int wrong : new int[] {-1, 13, MIN, MAX}) {
            run.refuses("count(" + wrong + ")", -1);
        }
    }
}
