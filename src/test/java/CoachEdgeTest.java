/** The sentences of promises 9 to 15 and 22, and those of 'Terms' on coaches and stands, that name an edge. */
public final class CoachEdgeTest {
    private static final int DAY = 1440;
    private static final int MIN = Integer.MIN_VALUE;
    private static final int MAX = Integer.MAX_VALUE;
    private static final Check CHECK = new Check();

    private CoachEdgeTest() {
    }

    public static void main(String[] args) {
        coaches();
        plates();
        coachRefused();
        licences();
        licencesOfEach();
        yearsOfLicences();
        looks();
        lookedAtThatDay();
        stands();
        places();
        fullStand();
        placesOfThoseThatStand();
        states();
        strengthAtMost();
        strengthAtLeast();
        strengthOfDriving();
        arrivalsByNumbers();
        strengthOfMinutes();
        times();
        goFromStates();
        goByWayNow();
        goLeavesRow();
        goRefused();
        goThereAlready();
        about();
        aboutFares();
        aboutHolder();
        turns();
        minutes();
        lastMinute();
        CHECK.end();
    }

    private static Run run() {
        return new Run(CHECK);
    }

    /** What a coach does, its corner, when it is there, and its stand. */
    private static void checkCoach(Run run, int coach, int does, int corner, int arrival, int stand) {
        run.due("about(" + coach + ", 0)", does).due("about(" + coach + ", 1)", corner);
        run.due("about(" + coach + ", 3)", arrival).due("about(" + coach + ", 4)", stand);
    }

    private static void checkRow(Run run, int stand, int... coaches) {
        for (int i = 0; i < coaches.length; i++) {
            run.due("turn(" + stand + ", " + i + ")", coaches[i]);
        }
        run.due("turn(" + stand + ", " + coaches.length + ")", -1);
    }

    private static void coaches() {
        CHECK.sentence("Terms", "COACHES 0 .. 29, as they were made");
        Run run = run().row(2, 110).make("stand(1, 10)");
        for (int i = 0; i < 30; i++) {
            run.refuses("about(" + i + ", 0)", -9).refuses("look(" + i + ", 0)", -9).refuses("go(" + i + ", 0)", -1);
            run.due("coach(" + (i + 1) + ", 0)", i).due("count(2)", i + 1).due("about(" + i + ", 0)", 0);
        }
        CHECK.sentence("Promise 9", "FULL.");
        run.refuses("coach(31, 0)", -2).refuses("coach(9999, 1)", -2).due("count(2)", 30).refuses("about(30, 0)", -9);
        run.due("look(29, 3)", -1).due("licence(29, 0, 0)", 1).due("go(29, 0)", 1).refuses("go(30, 0)", -1);
        run.refuses("licence(30, 0, 0)", -1).refuses("look(30, 0)", -9).refuses("found(0, 30)", -1).due("found(0, 29)", 0);
    }

    private static void plates() {
        CHECK.sentence("Terms", "a PLATE (1 .. 9999, of one COACH alone), a HOME (a CORNER), a STRENGTH (0 .. 1000; 1000 at "
            + "first), LOOKED AT up to a DAY (that one, too; none at first).");
        Run run = run().corners(2);
        run.refuses("coach(0, 0)", -1).due("coach(1, 0)", 0).refuses("coach(1, 0)", -4).refuses("coach(1, 1)", -4);
        run.refuses("coach(10000, 0)", -1).due("coach(9999, 1)", 1).refuses("coach(9999, 1)", -4);
        run.refuses("coach(-1, 0)", -1).refuses("coach(" + MIN + ", 0)", -1).refuses("coach(" + MAX + ", 0)", -1);
        run.due("about(0, 1)", 0).due("about(1, 1)", 1).due("about(0, 2)", 1000).due("about(1, 6)", -1);
        run.refuses("coach(2, -1)", -1).refuses("coach(2, 2)", -1).refuses("coach(2, 24)", -1);
        run.refuses("coach(2, " + MIN + ")", -1).refuses("coach(2, " + MAX + ")", -1).due("coach(2, 1)", 2);
        run.due("coach(9998, 0)", 3);
    }

    private static void coachRefused() {
        CHECK.sentence("Promise 9", "A new COACH: its number. NONE; THERE: the PLATE is another one's; FULL.");
        Run run = run().corners(1).due("coach(5, 0)", 0);
        // NONE is named ahead of THERE, both ahead of FULL.
        run.refuses("coach(5, 1)", -1).refuses("coach(5, -1)", -1).refuses("coach(5, 0)", -4);
        for (int i = 1; i < 30; i++) {
            run.due("coach(" + (100 + i) + ", 0)", i);
        }
        run.refuses("coach(5, 0)", -4).refuses("coach(129, 0)", -4).refuses("coach(130, 0)", -2);
        run.refuses("coach(130, 1)", -1).refuses("coach(0, 0)", -1).refuses("coach(5, 1)", -1);
    }

    private static void licences() {
        CHECK.sentence("Promise 10", "A LICENCE: 1. NONE (year 0 .. 1999); THERE: there is one for this COACH and YEAR; FULL: "
            + "200 LICENCES.");
        Run run = run().corners(1).make("coach(1, 0)", "coach(2, 0)");
        run.refuses("licence(0, -1, 0)", -1).due("licence(0, 0, 0)", 1).due("count(12)", 1);
        run.refuses("licence(0, 2000, 0)", -1).due("licence(0, 1999, 0)", 1).due("count(12)", 2);
        run.refuses("licence(-1, 1, 0)", -1).refuses("licence(2, 1, 0)", -1).refuses("licence(" + MIN + ", 1, 0)", -1);
        run.refuses("licence(" + MAX + ", 1, 0)", -1).refuses("licence(0, " + MIN + ", 0)", -1);
        run.refuses("licence(0, " + MAX + ", 0)", -1).refuses("licence(0, 0, 1)", -4).refuses("licence(0, 0, 0)", -4);
        // NONE is named ahead of THERE.
        run.refuses("licence(0, 0, 50)", -1).refuses("licence(0, 0, -1)", -1);
        for (int year = 1; year < 199; year++) {
            run.due("licence(1, " + year + ", 3)", 1);
        }
        run.due("count(12)", 200).refuses("licence(1, 0, 3)", -2).refuses("licence(0, 5, 3)", -2);
        run.due("count(12)", 200);
        // NONE and THERE are named ahead of FULL.
        run.refuses("licence(0, 2000, 0)", -1).refuses("licence(1, 0, 50)", -1).refuses("licence(2, 0, 0)", -1);
        run.refuses("licence(1, 198, 0)", -4).refuses("licence(0, 1999, 9)", -4).refuses("licence(1, 199, 0)", -2);
    }

    private static void licencesOfEach() {
        CHECK.sentence("Terms", "LICENCES: of a COACH and a YEAR a HOLDER (a person 0 .. 49); one at most of each.");
        Run run = run().corners(1).make("coach(1, 0)", "coach(2, 0)", "coach(3, 0)");
        run.refuses("licence(0, 0, -1)", -1).due("licence(0, 0, 0)", 1).refuses("licence(0, 0, 1)", -4);
        run.refuses("licence(1, 0, 50)", -1).due("licence(1, 0, 49)", 1).due("about(0, 5)", 0).due("about(1, 5)", 49);
        run.refuses("licence(2, 0, " + MIN + ")", -1).refuses("licence(2, 0, " + MAX + ")", -1).due("about(2, 5)", -1);
        // One holder may have several, in one year and in several.
        run.due("licence(2, 0, 49)", 1).due("licence(2, 1, 49)", 1).due("licence(1, 1, 49)", 1).due("about(2, 5)", 49);
        run.refuses("licence(2, 1, 48)", -4).refuses("licence(1, 1, 49)", -4).due("count(12)", 5);
    }

    private static void yearsOfLicences() {
        CHECK.sentence("Terms", "a YEAR DAY / 360");
        Run run = run().row(2, 110).make("coach(1, 0)", "licence(0, 0, 7)", "look(0, 9999)", "stand(0, 1)", "go(0, 0)");
        run.due("why(0, 0, 1, 1000)", 0).passTo(360 * DAY - 1).due("about(0, 5)", 7).due("why(0, 0, 1, 1000)", 0);
        run.make("minutes(1)").due("about(0, 5)", -1).due("why(0, 0, 1, 1000)", 1).refuses("licence(0, 0, 8)", -4);
        run.due("licence(0, 2, 9)", 1).due("about(0, 5)", -1).due("licence(0, 1, 8)", 1).due("about(0, 5)", 8);
        run.due("why(0, 0, 1, 1000)", 0).make("minutes(1440)").due("about(0, 5)", 8);
    }

    private static void looks() {
        CHECK.sentence("Promise 11", "A COACH is LOOKED AT up to a DAY (TODAY .. 9999): up to which it was (-1: none). -9: NONE.");
        Run run = run().corners(1).make("coach(1, 0)", "coach(2, 0)").passTo(3 * DAY);
        run.refuses("look(0, 2)", -9).refuses("look(0, 0)", -9).refuses("look(0, -1)", -9).due("about(0, 6)", -1);
        run.due("look(0, 3)", -1).due("about(0, 6)", 3).due("look(0, 4)", 3).due("look(0, 3)", 4).due("about(0, 6)", 3);
        run.refuses("look(0, 10000)", -9).due("look(0, 9999)", 3).due("about(0, 6)", 9999).due("look(0, 9999)", 9999);
        run.refuses("look(0, " + MIN + ")", -9).refuses("look(0, " + MAX + ")", -9).refuses("look(-1, 3)", -9);
        run.refuses("look(2, 3)", -9).refuses("look(30, 3)", -9).refuses("look(" + MIN + ", 3)", -9);
        run.refuses("look(" + MAX + ", 3)", -9).due("about(1, 6)", -1).due("look(1, 5)", -1);
        run.passTo(4 * DAY - 1).due("look(1, 3)", 5).make("minutes(1)").refuses("look(1, 3)", -9).due("look(1, 4)", 3);
    }

    private static void lookedAtThatDay() {
        CHECK.sentence("Terms", "LOOKED AT up to a DAY (that one, too; none at first)");
        Run run = run().row(2, 110).make("coach(1, 0)", "licence(0, 0, 7)", "stand(0, 1)", "go(0, 0)");
        run.due("why(0, 0, 1, 1000)", 2).due("look(0, 0)", -1).due("why(0, 0, 1, 1000)", 0);
        run.passTo(DAY - 1).due("why(0, 0, 1, 1000)", 0).make("minutes(1)").due("why(0, 0, 1, 1000)", 2);
        run.due("look(0, 2)", 0).passTo(3 * DAY - 1).due("why(0, 0, 1, 1000)", 0);
        run.make("minutes(1)").due("why(0, 0, 1, 1000)", 2).due("about(0, 6)", 2);
    }

    private static void stands() {
        CHECK.sentence("Terms", "STANDS 0 .. 11, as they were made: a CORNER, PLACES (1 .. 10)");
        Run run = run().corners(2).make("coach(1, 0)");
        for (int i = 0; i < 12; i++) {
            run.refuses("go(0, " + i + ")", -1).refuses("turn(" + i + ", 0)", -1);
            run.due("stand(0, 1)", i).due("count(3)", i + 1).due("go(0, " + i + ")", 0).due("turn(" + i + ", 0)", 0);
        }
        CHECK.sentence("Promise 12", "A new STAND: its number. NONE, FULL.");
        run.refuses("stand(0, 1)", -2).refuses("stand(1, 10)", -2).refuses("go(0, 12)", -1).refuses("turn(12, 0)", -1);
        // NONE is named ahead of FULL.
        run.refuses("stand(0, 0)", -1).refuses("stand(0, 11)", -1).refuses("stand(2, 1)", -1).due("count(3)", 12);
        Run few = run().corners(2);
        few.refuses("stand(-1, 1)", -1).refuses("stand(2, 1)", -1).refuses("stand(" + MIN + ", 1)", -1);
        few.refuses("stand(" + MAX + ", 1)", -1).refuses("stand(0, 0)", -1).refuses("stand(0, -1)", -1);
        few.refuses("stand(0, 11)", -1).refuses("stand(0, " + MIN + ")", -1).refuses("stand(0, " + MAX + ")", -1);
        few.due("stand(0, 1)", 0).due("stand(1, 10)", 1).due("stand(1, 1)", 2);
    }

    private static void places() {
        CHECK.sentence("Terms", "a row of COACHES, the first one first");
        Run run = run().corners(1).make("stand(0, 10)", "stand(0, 1)");
        for (int i = 0; i < 12; i++) {
            run.make("coach(" + (i + 1) + ", 0)");
        }
        for (int i = 10; i > 0; i--) {
            run.due("turn(0, " + (10 - i) + ")", -1).due("go(" + i + ", 0)", 0).due("turn(0, " + (10 - i) + ")", i);
        }
        // The 11th one finds no place.
        run.due("go(11, 0)", 0).due("about(11, 0)", 4);
        checkRow(run, 0, 10, 9, 8, 7, 6, 5, 4, 3, 2, 1);
        run.due("go(6, 1)", 0);
        checkRow(run, 0, 10, 9, 8, 7, 5, 4, 3, 2, 1);
        checkRow(run, 1, 6);
        run.due("go(0, 1)", 0).due("about(0, 0)", 4).due("go(11, 0)", 0);
        checkRow(run, 0, 10, 9, 8, 7, 5, 4, 3, 2, 1, 11);
    }

    private static void fullStand() {
        CHECK.sentence("Terms", "One that comes to a STAND all of whose PLACES are taken by COACHES that STAND there WAITS at "
            + "its CORNER.");
        Run run = run().row(2, 110).make("stand(1, 2)", "coach(1, 0)", "coach(2, 0)", "coach(3, 0)", "coach(4, 1)");
        run.due("go(0, 0)", 1).due("go(1, 0)", 1).make("minutes(1)").due("go(2, 0)", 1).make("minutes(1)");
        checkCoach(run, 1, 1, 1, -1, 0);
        checkCoach(run, 2, 4, 1, -1, -1);
        checkRow(run, 0, 0, 1);
        // It does not come in by itself when a place is free, and takes no place.
        run.due("go(0, -1)", 1).make("minutes(5)");
        checkCoach(run, 2, 4, 1, -1, -1);
        checkRow(run, 0, 1);
        run.due("go(3, 0)", 0);
        checkRow(run, 0, 1, 3);
        run.due("go(2, 0)", 0);
        checkCoach(run, 2, 4, 1, -1, -1);
        run.due("go(1, -1)", 1).due("go(2, 0)", 0);
        checkRow(run, 0, 3, 2);
    }

    private static void placesOfThoseThatStand() {
        CHECK.sentence("Terms", "taken by COACHES that STAND there");
        // One that GOES to a stand takes no place there until it comes.
        Run run = run().row(3, 110).make("stand(2, 1)", "coach(1, 0)", "coach(2, 1)", "coach(3, 2)");
        run.due("go(0, 0)", 2).due("go(1, 0)", 1).make("minutes(1)");
        checkRow(run, 0, 1);
        run.make("minutes(1)");
        checkCoach(run, 0, 4, 2, -1, -1);
        // A place that is left while another one comes is free for that one; with the minute that it comes, too late.
        run.due("go(0, -1)", 2).make("minutes(2)").due("go(0, 0)", 2).make("minutes(1)").due("go(1, -1)", 1);
        run.make("minutes(1)");
        checkRow(run, 0, 0);
        run.due("go(1, 0)", 1).make("minutes(1)").due("go(0, -1)", 2);
        checkRow(run, 0);
        checkCoach(run, 1, 4, 2, -1, -1);
        run.due("go(2, 0)", 0);
        checkRow(run, 0, 2);
    }

    private static void states() {
        CHECK.sentence("Terms", "It RESTS (at HOME, at first), STANDS (in the row of a stand), GOES (to a stand, or HOME), "
            + "DRIVES (on a trip), or WAITS (at a CORNER, behind a trip or a way).");
        Run run = run().row(3, 220).make("stand(1, 1)").ready(0, 1, 0).ready(1, 2, 1);
        checkCoach(run, 0, 0, 0, -1, -1);
        checkCoach(run, 1, 0, 1, -1, -1);
        run.due("go(0, 0)", 2);
        checkCoach(run, 0, 2, 1, 2, 0);
        run.make("minutes(1)");
        checkCoach(run, 0, 2, 1, 2, 0);
        run.make("minutes(1)");
        checkCoach(run, 0, 1, 1, -1, 0);
        run.due("go(1, 0)", 0);
        checkCoach(run, 1, 4, 1, -1, -1);
        run.due("call(1, 2, 1005)", 0);
        checkCoach(run, 0, 3, 2, 9, -1);
        checkRow(run, 0);
        run.make("minutes(6)");
        checkCoach(run, 0, 3, 2, 9, -1);
        run.make("minutes(1)");
        checkCoach(run, 0, 4, 2, -1, -1);
        run.due("go(0, -1)", 4);
        checkCoach(run, 0, 2, 0, 13, -1);
        run.make("minutes(4)");
        checkCoach(run, 0, 0, 0, -1, -1);
    }

    private static void strengthAtMost() {
        CHECK.sentence("Terms", "STRENGTH: each MINUTE in which it RESTS 2 more (1000 at most), in which it GOES 1 less, "
            + "DRIVES 3 less, else as it is (0 at least).");
        Run run = run().row(3, 110).make("street(2, 110, 0)", "stand(1, 1)", "stand(2, 1)", "coach(1, 0)");
        run.make("minutes(1)").due("about(0, 2)", 1000).make("minutes(1440)").due("about(0, 2)", 1000);
        run.due("go(0, 0)", 1).due("about(0, 2)", 1000).make("minutes(1)").due("about(0, 2)", 999);
        run.make("minutes(1)").due("about(0, 2)", 999).due("go(0, 1)", 1).make("minutes(1)").due("about(0, 2)", 998);
        run.due("go(0, -1)", 1).make("minutes(1)").due("about(0, 2)", 997);
        run.make("minutes(1)").due("about(0, 2)", 999).make("minutes(1)").due("about(0, 2)", 1000);
        run.make("minutes(1)").due("about(0, 2)", 1000);
        // Behind a way to a full stand it waits, with the strength as it is.
        run.make("coach(2, 1)", "go(1, 0)", "go(0, 0)", "minutes(3)").due("about(0, 0)", 4).due("about(0, 2)", 999);
        run.make("minutes(1440)").due("about(0, 2)", 999).due("about(1, 2)", 1000);
    }

    private static void strengthAtLeast() {
        CHECK.sentence("Terms", "a STRENGTH (0 .. 1000; 1000 at first)");
        Run run = run().row(24, 2000).make("stand(0, 1)", "stand(23, 1)", "coach(1, 0)").due("about(0, 2)", 1000);
        run.due("go(0, 1)", 419).make("minutes(419)").due("about(0, 2)", 581);
        run.due("go(0, 0)", 419).make("minutes(419)").due("about(0, 2)", 162);
        run.due("go(0, 1)", 419).make("minutes(161)").due("about(0, 2)", 1).make("minutes(1)").due("about(0, 2)", 0);
        run.make("minutes(1)").due("about(0, 2)", 0).make("minutes(256)").due("about(0, 0)", 1).due("about(0, 2)", 0);
        run.make("minutes(9)").due("about(0, 2)", 0).due("go(0, -1)", 419).make("minutes(419)").due("about(0, 2)", 0);
        run.make("minutes(1)").due("about(0, 2)", 2).make("minutes(498)").due("about(0, 2)", 998);
        run.make("minutes(1)").due("about(0, 2)", 1000).make("minutes(1)").due("about(0, 2)", 1000);
        // In one call with what comes behind it, as minute by minute.
        Run once = run().row(24, 2000).make("stand(0, 1)", "stand(23, 1)", "coach(1, 0)");
        once.make("go(0, 1)", "minutes(419)", "go(0, 0)", "minutes(419)", "go(0, 1)", "minutes(419)", "go(0, -1)");
        once.make("minutes(422)").due("about(0, 2)", 6).make("minutes(1440)").due("about(0, 2)", 1000);
    }

    private static void strengthOfDriving() {
        CHECK.sentence("Terms", "DRIVES 3 less, else as it is");
        Run run = run().row(3, 220).make("stand(1, 1)").ready(0, 1, 1).make("go(0, 0)").due("about(0, 2)", 1000);
        // 2 minutes to the caller, 4 the trip, 5 waiting.
        run.due("call(0, 2, 1005)", 0).due("about(0, 2)", 1000).make("minutes(1)").due("about(0, 2)", 997);
        run.make("minutes(1)").due("about(0, 2)", 994).make("minutes(1)").due("about(0, 2)", 991);
        run.make("minutes(7)").due("about(0, 2)", 970).due("about(0, 0)", 3);
        run.make("minutes(1)").due("about(0, 2)", 967).due("about(0, 0)", 4);
        run.make("minutes(1)").due("about(0, 2)", 967).make("minutes(100)").due("about(0, 2)", 967);
    }

    private static void arrivalsByNumbers() {
        CHECK.sentence("Terms", "then MINUTE is one more, and those that are there come, by numbers.");
        Run run = run().row(4, 110).make("stand(3, 2)", "coach(1, 0)", "coach(2, 1)", "coach(3, 2)", "coach(4, 0)");
        // Of those that come in one minute the least number first, whoever set out first.
        run.due("go(3, 0)", 3).due("go(2, 0)", 1).make("minutes(1)");
        checkRow(run, 0, 2);
        run.due("go(1, 0)", 2).make("minutes(2)");
        checkRow(run, 0, 2, 1);
        checkCoach(run, 3, 4, 3, -1, -1);
        // In one call of many minutes one that is there earlier comes first, though its number be higher.
        Run more = run().row(4, 110).make("stand(3, 3)", "coach(1, 0)", "coach(2, 1)", "coach(3, 2)", "coach(4, 0)");
        more.due("go(0, 0)", 3).due("go(1, 0)", 2).due("go(2, 0)", 1).due("go(3, 0)", 3).make("minutes(1440)");
        checkRow(more, 0, 2, 1, 0);
        checkCoach(more, 3, 4, 3, -1, -1);
        more.due("about(0, 2)", 997).due("about(1, 2)", 998).due("about(2, 2)", 999).due("about(3, 2)", 997);
    }

    private static void strengthOfMinutes() {
        CHECK.sentence("Terms", "In a MINUTE STRENGTH is by what each is in it");
        // Minutes on the way count for it to the last one, and not the one behind it.
        Run run = run().row(2, 330).make("stand(1, 1)", "coach(1, 0)", "coach(2, 0)");
        run.due("go(0, 0)", 3).make("minutes(2)").due("about(0, 2)", 998).due("about(0, 0)", 2).make("minutes(1)");
        run.due("about(0, 2)", 997).due("about(0, 0)", 1).make("minutes(1)").due("about(0, 2)", 997);
        // It goes home in 3 minutes and rests in the next one.
        run.due("go(0, -1)", 3).make("minutes(4)").due("about(0, 2)", 996).due("about(1, 2)", 1000);
        run.make("minutes(1)").due("about(0, 2)", 998);
        // What it is in when the minute goes by counts, not what it was in ahead in the same minute.
        run.due("go(0, 0)", 3).make("minutes(1)").due("about(0, 2)", 997);
    }

    private static void times() {
        CHECK.sentence("Terms", "TIME of YARDS: divided by 110, up: minutes.");
        int[] yards = {1, 109, 110, 111, 219, 220, 221, 1980, 1981, 2000};
        int[] times = {1, 1, 1, 2, 2, 2, 3, 18, 19, 19};
        for (int i = 0; i < yards.length; i++) {
            Run run = run().row(2, yards[i]).make("stand(0, 1)", "stand(1, 1)").ready(0, 1, 0);
            run.due("go(0, 1)", times[i]).due("about(0, 3)", times[i]).make("minutes(" + times[i] + ")");
            run.due("about(0, 0)", 1).due("call(0, 1, 1000)", 0).due("trip(0, 4)", 2 * times[i]);
            run.due("trip(0, 5)", 3 * times[i]);
        }
        // All yards of a way together are divided, not those of each street; 0 yards take no minute.
        Run run = run().row(3, 56).make("stand(2, 1)", "coach(1, 0)").due("go(0, 0)", 2).make("minutes(2)");
        run.due("go(0, -1)", 2).make("minutes(2)").due("go(0, -1)", 0);
    }

    private static void goFromStates() {
        CHECK.sentence("Promise 13", "A COACH that RESTS, WAITS, or STANDS GOES to a STAND (-1: HOME), by its WAY now: minutes "
            + "till it is there.");
        Run run = run().row(3, 150).make("stand(1, 1)", "stand(2, 1)").ready(0, 1, 0).make("coach(2, 1)", "go(1, 0)");
        run.due("go(0, 1)", 3);
        checkCoach(run, 0, 2, 2, 3, 1);
        run.make("minutes(3)").due("go(0, 0)", 2);
        checkCoach(run, 0, 2, 1, 5, 0);
        run.make("minutes(2)");
        checkCoach(run, 0, 4, 1, -1, -1);
        run.due("go(0, 1)", 2).make("minutes(2)");
        checkCoach(run, 0, 1, 2, -1, 1);
        run.due("go(0, -1)", 3);
        checkCoach(run, 0, 2, 0, 10, -1);
        run.make("minutes(3)");
        checkCoach(run, 0, 0, 0, -1, -1);
    }

    private static void goByWayNow() {
        CHECK.sentence("Promise 13", "by its WAY now");
        // The short street is shut in minutes 10 .. 19.
        Run run = run().corners(2).make("street(1, 110, 0)", "street(1, 550, 0)", "shut(0, 10, 20)", "stand(1, 1)");
        run.make("coach(1, 0)", "coach(2, 1)").passTo(9).due("go(0, 0)", 1).passTo(10).due("about(0, 0)", 1);
        run.due("go(0, -1)", 5).passTo(19).due("about(0, 0)", 0).due("go(0, 0)", 5).passTo(20).due("about(0, 3)", 24);
        run.passTo(24).due("go(0, -1)", 1);
        // Shut for all of the way but the first minute, it is gone all the same; no way now, none at all.
        Run row = run().row(2, 330).make("shut(0, 1, 3)", "stand(1, 1)", "coach(1, 0)", "coach(2, 0)");
        row.due("go(0, 0)", 3).passTo(1).refuses("go(1, 0)", -5).passTo(2).refuses("go(1, 0)", -5).passTo(3);
        row.due("about(0, 0)", 1).due("go(1, 0)", 3);
    }

    private static void goLeavesRow() {
        CHECK.sentence("Promise 13", "It leaves its row at once.");
        Run run = run().row(2, 110).make("stand(0, 3)", "stand(1, 1)", "stand(0, 1)");
        for (int i = 0; i < 4; i++) {
            run.make("coach(" + (i + 1) + ", 0)");
        }
        run.make("go(0, 0)", "go(1, 0)", "go(2, 0)").due("go(3, 0)", 0).due("about(3, 0)", 4);
        run.due("go(1, 1)", 1);
        checkRow(run, 0, 0, 2);
        run.due("go(3, 0)", 0);
        checkRow(run, 0, 0, 2, 3);
        run.due("go(0, -1)", 0);
        checkRow(run, 0, 2, 3);
        run.due("go(3, 2)", 0).due("go(2, 2)", 0).due("about(2, 0)", 4);
        checkRow(run, 0);
        checkRow(run, 2, 3);
        // One that is refused its way stays in the row, in its place.
        Run row = run().corners(2).make("stand(0, 2)", "stand(1, 1)", "coach(1, 0)", "coach(2, 0)", "go(0, 0)", "go(1, 0)");
        row.refuses("go(0, 1)", -5);
        checkRow(row, 0, 0, 1);
    }

    private static void goRefused() {
        CHECK.sentence("Promise 13", "NONE; STATE: it GOES or DRIVES, or STANDS at just that STAND; NO_WAY.");
        Run run = run().row(2, 220).make("corner()", "stand(1, 1)", "stand(0, 1)", "stand(2, 1)").ready(0, 1, 0);
        run.refuses("go(-1, 0)", -1).refuses("go(1, 0)", -1).refuses("go(30, -1)", -1).refuses("go(" + MIN + ", 0)", -1);
        run.refuses("go(" + MAX + ", 0)", -1).refuses("go(0, -2)", -1).refuses("go(0, 3)", -1).refuses("go(0, 12)", -1);
        run.refuses("go(0, " + MIN + ")", -1).refuses("go(0, " + MAX + ")", -1).refuses("go(0, 2)", -5);
        run.due("go(0, 1)", 0).refuses("go(0, 1)", -3).refuses("go(0, 2)", -5).due("go(0, 0)", 2);
        // It GOES: to the same stand, to another one, home; STATE is named ahead of NO_WAY, NONE ahead of STATE.
        run.refuses("go(0, 0)", -3).refuses("go(0, 1)", -3).refuses("go(0, -1)", -3).refuses("go(0, 2)", -3);
        run.refuses("go(0, 3)", -1).refuses("go(0, -2)", -1).make("minutes(1)").refuses("go(0, -1)", -3);
        run.make("minutes(1)").refuses("go(0, 0)", -3).refuses("go(0, 2)", -5).due("call(1, 0, 1000)", 0);
        run.refuses("go(0, 0)", -3).refuses("go(0, 1)", -3).refuses("go(0, -1)", -3).refuses("go(0, 2)", -3);
        run.refuses("go(0, 3)", -1).make("minutes(1)").refuses("go(0, -1)", -3).make("minutes(1)").due("go(0, -1)", 0);
        // It STANDS at just that stand, and the way out is shut.
        run.make("go(0, 0)", "minutes(2)", "shut(0, 6, 8)").refuses("go(0, 0)", -3).refuses("go(0, -1)", -5);
        run.refuses("go(0, 1)", -5).make("minutes(2)").due("go(0, -1)", 2).make("shut(0, 9, 12)", "minutes(2)");
        run.due("go(0, -1)", 0).refuses("go(0, 0)", -5);
    }

    private static void goThereAlready() {
        CHECK.sentence("Promise 13", "(There already: it comes to the end of the row at once, or WAITS if that is full, or "
            + "RESTS; 0.)");
        Run run = run().row(2, 110).make("stand(0, 2)", "stand(0, 1)").ready(0, 1, 0).ready(1, 2, 0).ready(2, 3, 0);
        run.due("go(2, 0)", 0);
        checkCoach(run, 2, 1, 0, -1, 0);
        run.due("go(0, 0)", 0);
        checkRow(run, 0, 2, 0);
        run.due("go(1, 0)", 0);
        checkCoach(run, 1, 4, 0, -1, -1);
        run.due("go(1, 0)", 0);
        checkCoach(run, 1, 4, 0, -1, -1);
        // From row to row of one corner; back again to the end.
        run.due("go(2, 1)", 0).due("go(2, 0)", 0);
        checkRow(run, 0, 0, 2);
        run.due("go(1, 1)", 0).due("go(0, 1)", 0);
        checkCoach(run, 0, 4, 0, -1, -1);
        checkRow(run, 0, 2);
        run.due("go(1, -1)", 0).due("go(1, -1)", 0);
        checkCoach(run, 1, 0, 0, -1, -1);
        checkRow(run, 1);
        run.due("go(0, -1)", 0);
        checkCoach(run, 0, 0, 0, -1, -1);
        // Behind a trip to its home's corner it WAITS until it goes.
        run.due("call(0, 1, 1000)", 0).make("minutes(1)");
        checkCoach(run, 2, 4, 1, -1, -1);
        run.due("go(2, 0)", 1).make("minutes(1)").due("call(1, 0, 1000)", 1).make("minutes(2)");
        checkCoach(run, 2, 4, 0, -1, -1);
        run.due("go(2, -1)", 0);
        checkCoach(run, 2, 0, 0, -1, -1);
        run.due("count(8)", 4);
    }

    private static void about() {
        CHECK.sentence("Promise 14", "Of a COACH: 0 its state (0 RESTS, 1 STANDS, 2 GOES, 3 DRIVES, 4 WAITS), 1 its CORNER "
            + "(GOES, DRIVES: to which it comes), 2 STRENGTH, 3 the MINUTE when it is there (GOES, DRIVES; else -1), 4 its "
            + "STAND (STANDS; GOES to one; else -1), 5 HOLDER of this YEAR (-1: none), 6 LOOKED AT up to (-1), 7 how many "
            + "TRIPS");
        Run run = run().row(2, 110).make("stand(0, 1)", "coach(8, 0)");
        int[] first = {0, 0, 1000, -1, -1, -1, -1, 0, 0};
        for (int what = 0; what < first.length; what++) {
            run.due("about(0, " + what + ")", first[what]);
        }
        run.make("licence(0, 0, 0)", "look(0, 0)", "go(0, 0)").due("call(0, 1, 1000)", 0);
        int[] driving = {3, 1, 1000, 1, -1, 0, 0, 1, 0};
        for (int what = 0; what < driving.length; what++) {
            run.due("about(0, " + what + ")", driving[what]);
        }
        run.make("minutes(1)").due("go(0, 0)", 1);
        int[] going = {2, 0, 997, 2, 0, 0, 0, 1, 0};
        for (int what = 0; what < going.length; what++) {
            run.due("about(0, " + what + ")", going[what]);
        }
        run.make("minutes(1)").due("call(1, 0, 1000)", 1).due("about(0, 7)", 2);
        CHECK.sentence("Promise 14", "-9: NONE.");
        run.refuses("about(0, -1)", -9).refuses("about(0, 9)", -9).refuses("about(0, " + MIN + ")", -9);
        run.refuses("about(0, " + MAX + ")", -9).refuses("about(-1, 0)", -9).refuses("about(1, 0)", -9);
        run.refuses("about(30, 0)", -9).refuses("about(" + MIN + ", 0)", -9).refuses("about(" + MAX + ", 0)", -9);
        run.make("coach(9, 0)").due("about(1, 7)", 0).due("about(1, 0)", 0);
    }

    private static void aboutFares() {
        CHECK.sentence("Promise 14", "8 all FARES due of its TRIPS, AS KNOWN TODAY.");
        Run run = run().row(2, 110).make("stand(0, 2)").ready(0, 1, 0).ready(1, 2, 0).make("go(0, 0)", "go(1, 0)");
        run.due("call(0, 1, 1000)", 0).due("call(0, 1, 2000)", 1).due("about(0, 8)", 0).due("about(1, 8)", 0);
        run.make("minutes(1)", "go(0, 0)", "minutes(1)").due("call(0, 1, 3000)", 2).due("about(0, 7)", 2);
        run.passTo(DAY).due("about(0, 8)", 0);
        // Made today for all days: known today, not ahead of it.
        run.tape("p*1000").due("law(0, 0)", 0).due("about(0, 8)", 4000).due("about(1, 8)", 2000).due("due(0, 0, 0)", -9);
        run.tape("p*10").due("law(1, 1)", 1).due("about(0, 8)", 4000).tape("p*9").due("law(1, 0)", 2);
        run.due("about(0, 8)", 36).due("about(1, 8)", 18).tape("1000000").make("feed(1, 48)", "feed(2, 12345)");
        // A fault makes no law.
        run.due("law(1, 0)", -105).due("about(0, 8)", 36).tape("99999*99").due("law(1, 0)", 3).due("about(0, 8)", 4000);
        run.tape("99999*99").due("law(0, 0)", 4).due("about(0, 8)", 2000000).due("about(1, 8)", 1000000);
    }

    private static void aboutHolder() {
        CHECK.sentence("Promise 14", "5 HOLDER of this YEAR (-1: none)");
        Run run = run().corners(1).make("coach(1, 0)", "licence(0, 1, 4)").due("about(0, 5)", -1);
        run.make("licence(0, 0, 0)").due("about(0, 5)", 0).passTo(359 * DAY + 1439).due("about(0, 5)", 0);
        run.make("minutes(1)").due("about(0, 5)", 4).passTo(470 * DAY).due("about(0, 5)", 4);
    }

    private static void turns() {
        CHECK.sentence("Promise 15", "The i-th COACH in the row of a STAND. NONE.");
        Run run = run().corners(1).make("stand(0, 10)", "stand(0, 2)").refuses("turn(0, 0)", -1);
        for (int i = 0; i < 11; i++) {
            run.make("coach(" + (i + 1) + ", 0)", "go(" + i + ", 0)");
        }
        for (int i = 0; i < 10; i++) {
            run.due("turn(0, " + i + ")", i);
        }
        run.refuses("turn(0, 10)", -1).refuses("turn(0, 11)", -1).refuses("turn(0, -1)", -1);
        run.refuses("turn(0, " + MIN + ")", -1).refuses("turn(0, " + MAX + ")", -1).refuses("turn(-1, 0)", -1);
        run.refuses("turn(2, 0)", -1).refuses("turn(12, 0)", -1).refuses("turn(" + MIN + ", 0)", -1);
        run.refuses("turn(" + MAX + ", 0)", -1).refuses("turn(1, 0)", -1).due("go(0, 1)", 0).due("turn(1, 0)", 0);
        run.refuses("turn(1, 1)", -1).due("turn(0, 8)", 9).refuses("turn(0, 9)", -1);
    }

    private static void minutes() {
        CHECK.sentence("Promise 22", "n (1 .. 1440) MINUTES go by: MINUTE.");
        Run run = run().refuses("minutes(0)", -1).refuses("minutes(-1)", -1).refuses("minutes(1441)", -1);
        run.refuses("minutes(" + MIN + ")", -1).refuses("minutes(" + MAX + ")", -1).due("count(8)", 0);
        run.due("minutes(1)", 1).due("minutes(1440)", 1441).due("minutes(1439)", 2880).due("minutes(2)", 2882);
        run.refuses("minutes(0)", -1).refuses("minutes(1441)", -1).due("count(8)", 2882);
    }

    private static void lastMinute() {
        CHECK.sentence("Promise 22", "NONE (also beyond 719999).");
        Run run = run().passTo(718560).refuses("minutes(1440)", -1).due("minutes(1438)", 719998);
        run.refuses("minutes(2)", -1).refuses("minutes(1440)", -1).refuses("minutes(0)", -1).due("minutes(1)", 719999);
        CHECK.sentence("Terms", "MINUTE is a count, 0 at first, at most 719999");
        run.refuses("minutes(1)", -1).refuses("minutes(1440)", -1).due("count(8)", 719999);
        run.due("night(719999)", 1).due("corner()", 0).due("coach(1, 0)", 0).refuses("look(0, 498)", -9);
        run().due("count(8)", 0).due("minutes(1)", 1);
    }
}
