/** The sentences of promises 20, 21 and 23 to 25, and those of 'Terms' on calls, trips and fares, that name an edge. */
public final class TripEdgeTest {
    private static final int DAY = 1440;
    private static final int MIN = Integer.MIN_VALUE;
    private static final int MAX = Integer.MAX_VALUE;
    private static final Check CHECK = new Check();

    private TripEdgeTest() {
    }

    public static void main(String[] args) {
        callCorners();
        callLoads();
        callNoWay();
        callState();
        callAnswersInOrder();
        tripsFull();
        standsByYards();
        standsWithCoaches();
        standsWithoutWay();
        firstInTurn();
        firstWithoutWhy();
        whyLicence();
        whyLooked();
        whyStrength();
        whyStrengthByParts();
        whyRefuses();
        whyOrder();
        refusalsNoted();
        refusalsFull();
        drives();
        waysOfTheCall();
        whyNumbers();
        whyStates();
        whyNoWay();
        lastMinute();
        tripNumbers();
        tripNight();
        dueNumbers();
        dueAsKnown();
        fareBounds();
        fareOfTwo();
        refusalNumbers();
        nameNight();
        nameWeekday();
        nameHour();
        nameRide();
        nameStrength();
        CHECK.end();
    }

    /** Two corners, 110 yards apart, and a stand at corner 0. */
    private static Run run() {
        return new Run(CHECK).row(2, 110).make("stand(0, 10)");
    }

    /** A coach that stands there, with licences of the years 0 and 1. */
    private static Run runWithCoach() {
        return run().ready(0, 7, 0).make("licence(0, 1, 0)", "go(0, 0)");
    }

    private static void checkTrip(Run run, int trip, int... facts) {
        for (int what = 0; what < facts.length; what++) {
            run.due("trip(" + trip + ", " + what + ")", facts[what]);
        }
    }

    private static void checkRefusal(Run run, int i, int coach, int minute, int from, int to) {
        run.due("refusal(" + i + ", 0)", coach).due("refusal(" + i + ", 1)", minute);
        run.due("refusal(" + i + ", 2)", from).due("refusal(" + i + ", 3)", to);
    }

    private static void callCorners() {
        CHECK.sentence("Promise 20", "NONE (also to the same CORNER)");
        Run run = runWithCoach();
        for (int wrong : new int[] {-1, 2, 24, MIN, MAX}) {
            run.refuses("call(" + wrong + ", 1, 1000)", -1).refuses("call(0, " + wrong + ", 1000)", -1);
            run.refuses("call(" + wrong + ", " + wrong + ", 1000)", -1);
        }
        run.refuses("call(0, 0, 1000)", -1).refuses("call(1, 1, 1000)", -1).due("call(0, 1, 1000)", 0);
        run.refuses("call(0, 0, 1000)", -1).make("minutes(1)", "go(0, 0)", "minutes(1)").due("call(1, 0, 1000)", 1);
    }

    private static void callLoads() {
        CHECK.sentence("Terms", "A CALL: at a CORNER, to another one, for 1 .. 6 persons, with told minutes of waiting on the "
            + "way (0 .. 240).");
        Run run = runWithCoach();
        int[] wrong = {-1, 0, 240, 999, 1241, 1999, 6241, 6999, 7000, 7240, 10000, -999, -1000, -1001, -6000, MIN, MAX};
        for (int what : wrong) {
            run.refuses("call(0, 1, " + what + ")", -1).refuses("why(0, 0, 1, " + what + ")", -1);
        }
        CHECK.sentence("Promise 20", "A CALL: the TRIP's number. what: 1000 times persons, and waiting.");
        int trip = 0;
        for (int persons = 1; persons <= 6; persons++) {
            int most = persons == 6 ? 240 : 1;
            for (int waiting = 0; waiting <= most; waiting += most) {
                int what = 1000 * persons + waiting;
                run.due("why(0, 0, 1, " + what + ")", 0).due("call(0, 1, " + what + ")", trip);
                run.due("trip(" + trip + ", 8)", persons).due("trip(" + trip + ", 9)", waiting).make("minutes(300)");
                run.make("go(0, -1)", "minutes(500)", "go(0, 0)");
                trip++;
            }
        }
        run.due("count(5)", 12);
    }

    private static void callNoWay() {
        CHECK.sentence("Promise 20", "NO_WAY: of the trip");
        Run run = runWithCoach().make("corner()");
        run.refuses("call(0, 2, 1000)", -5).refuses("call(2, 0, 1000)", -5).refuses("call(2, 1, 1000)", -5);
        // NONE is named ahead of NO_WAY.
        run.refuses("call(0, 2, 999)", -1).refuses("call(2, 2, 1000)", -1).refuses("call(0, 3, 1000)", -1);
        // NO_WAY is named ahead of STATE: here nobody stands.
        run.make("go(0, -1)").refuses("call(0, 2, 1000)", -5).refuses("call(0, 1, 1000)", -3).make("go(0, 0)");
        // Without a way to the caller alone, nobody comes.
        run.make("corner()", "street(203, 110, 0)").refuses("call(2, 3, 1000)", -3).refuses("call(3, 2, 1000)", -3);
        run.make("shut(0, 5, 6)").passTo(4).due("why(0, 0, 1, 1000)", 0).passTo(5).refuses("call(0, 1, 1000)", -5);
        run.passTo(6).due("call(0, 1, 1000)", 0);
    }

    private static void callState() {
        CHECK.sentence("Promise 20", "STATE: nobody comes (REFUSALS are noted all the same).");
        Run run = new Run(CHECK).row(2, 110).refuses("call(0, 1, 1000)", -3).make("stand(0, 10)");
        run.refuses("call(0, 1, 1000)", -3).ready(0, 1, 0).refuses("call(0, 1, 1000)", -3);
        run.make("coach(2, 0)", "go(1, 0)").refuses("call(0, 1, 1000)", -3).make("look(1, 5)");
        run.refuses("call(0, 1, 1000)", -3).make("licence(1, 0, 3)").due("why(1, 0, 1, 1000)", 0).law(2, "p>1");
        run.due("call(0, 1, 2000)", -3).due("count(6)", 1).due("count(5)", 0).due("about(1, 0)", 1);
        checkRefusal(run, 0, 1, 0, 0, 1);
        run.due("call(0, 1, 2000)", -3).due("count(6)", 2).make("go(0, 0)").due("call(1, 0, 3000)", -3).due("count(6)", 4);
        checkRefusal(run, 2, 1, 0, 1, 0);
        checkRefusal(run, 3, 0, 0, 1, 0);
        run.due("turn(0, 0)", 1).due("turn(0, 1)", 0).due("call(0, 1, 1000)", 0).due("count(6)", 4);
    }

    private static void callAnswersInOrder() {
        CHECK.sentence("Terms", "Answers, the first that a call names");
        // What is not as told for several reasons: NONE, then NO_WAY, then STATE.
        Run run = run().make("corner()").refuses("call(0, 2, 0)", -1).refuses("call(0, 2, 1000)", -5);
        run.refuses("call(0, 1, 1000)", -3).refuses("why(0, 0, 2, 1000)", -1).ready(0, 1, 0).refuses("why(0, 0, 2, 1000)", -1);
        run.make("go(0, 0)").refuses("why(0, 0, 2, 1000)", -5).refuses("why(0, 0, 2, 7000)", -1);
    }

    /** For 300 trips more calls are needed than are promised: each needs a call, and one for its coach to stand again. */
    private static void tripsFull() {
        CHECK.sentence("Terms", "TRIPS 0 .. 299 are kept: of later ones nothing (the CALL is refused).");
        Run run = new Run(CHECK).beyond().row(2, 110).make("corner()", "stand(0, 1)", "stand(1, 1)").ready(0, 7, 0);
        for (int i = 0; i < 300; i++) {
            run.due("go(0, " + i % 2 + ")", 0).due("call(" + i % 2 + ", " + (1 - i % 2) + ", 1000)", i).make("minutes(1)");
        }
        run.due("count(5)", 300).due("trip(299, 3)", 299).due("trip(299, 11)", 103).due("about(0, 7)", 300);
        run.due("trip(300, 0)", -9);
        CHECK.sentence("Promise 20", "FULL: there are 300 TRIPS");
        // Nobody stands: FULL is named ahead of STATE, NONE and NO_WAY ahead of FULL.
        run.refuses("call(0, 1, 1000)", -2).refuses("call(0, 0, 1000)", -1).refuses("call(0, 1, 7000)", -1);
        run.refuses("call(0, 2, 1000)", -5).make("go(0, 0)").due("why(0, 0, 1, 1000)", 0).refuses("call(0, 1, 1000)", -2);
        // A call that is refused so asks nobody: no refusal is noted.
        run.law(2, "1").due("why(0, 0, 1, 1000)", 4).refuses("call(0, 1, 1000)", -2).due("count(6)", 0).due("count(5)", 300);
        run.due("about(0, 0)", 1).due("turn(0, 0)", 0);
        run.due("complain(299, 5)", 0).refuses("complain(300, 5)", -1).due("due(299, 0, 0)", -9);
        CHECK.sentence("Terms", "A COMPLAINT of a TRIP, one each");
        for (int i = 0; i < 299; i++) {
            run.due("complain(" + i + ", 5)", i + 1);
        }
        run.refuses("complain(0, 5)", -4).due("count(7)", 300).due("judged(299, 0)", 298).due("judged(299, 3)", 299);
    }

    private static void standsByYards() {
        CHECK.sentence("Terms", "STANDS with COACHES are asked, the one with the least YARDS of its WAY to the caller first (of "
            + "several the least), those without a WAY not at all");
        // Stands 0 .. 3 at corners 1 .. 4; to corner 0 all take 1 minute, by 110, 109 (and bad), 108, 108 yards.
        Run run = new Run(CHECK).corners(6).make("street(1, 110, 0)", "street(2, 109, 1)", "street(3, 108, 0)");
        run.make("street(4, 108, 0)", "street(5, 110, 0)", "stand(1, 1)", "stand(2, 1)", "stand(3, 1)", "stand(4, 1)");
        for (int i = 0; i < 4; i++) {
            run.ready(i, i + 1, i + 1).make("go(" + i + ", " + i + ")");
        }
        run.due("call(0, 5, 1000)", 0).due("trip(0, 12)", 2).due("trip(0, 0)", 2);
        run.due("call(0, 5, 1000)", 1).due("trip(1, 12)", 3).due("trip(1, 0)", 3);
        run.due("call(0, 5, 1000)", 2).due("trip(2, 12)", 1).due("trip(2, 0)", 1);
        run.due("call(0, 5, 1000)", 3).due("trip(3, 12)", 0).due("trip(3, 0)", 0).refuses("call(0, 5, 1000)", -3);
        // The stand at the caller's own corner is nearest: 0 yards; of two there the least is asked first.
        Run own = new Run(CHECK).row(2, 1).make("stand(1, 1)", "stand(0, 1)", "stand(0, 1)");
        own.ready(0, 1, 1).ready(1, 2, 0).ready(2, 3, 0).make("go(0, 0)", "go(1, 2)", "go(2, 1)").law(2, "1");
        own.due("call(0, 1, 1000)", -3);
        checkRefusal(own, 0, 2, 0, 0, 1);
        checkRefusal(own, 1, 1, 0, 0, 1);
        checkRefusal(own, 2, 0, 0, 0, 1);
    }

    private static void standsWithCoaches() {
        CHECK.sentence("Terms", "STANDS with COACHES are asked");
        Run run = run().make("stand(1, 2)", "stand(0, 1)").ready(0, 1, 1).make("go(0, 1)");
        // Stands 0 and 2 are empty: the next one is asked.
        run.due("call(0, 1, 1000)", 0).due("trip(0, 12)", 1).due("trip(0, 4)", 1).due("trip(0, 5)", 2);
        // One that is on its way to the stand is not asked yet.
        run.ready(1, 2, 1).due("go(1, 0)", 1).refuses("call(0, 1, 1000)", -3).make("minutes(1)").due("call(0, 1, 1000)", 1);
        // All stands there can be, each with one coach, the last one nearest.
        Run all = new Run(CHECK).row(13, 10);
        for (int i = 0; i < 12; i++) {
            all.make("stand(" + (12 - i) + ", 1)").ready(i, i + 1, 12 - i).make("go(" + i + ", " + i + ")");
        }
        all.law(2, "p=2").due("call(0, 12, 2000)", -3).due("count(6)", 12);
        for (int i = 0; i < 12; i++) {
            all.due("refusal(" + i + ", 0)", 11 - i).due("call(0, 12, 1000)", i).due("trip(" + i + ", 12)", 11 - i);
        }
    }

    private static void standsWithoutWay() {
        CHECK.sentence("Terms", "those without a WAY not at all");
        Run run = run().make("corner()", "stand(2, 1)").ready(0, 1, 2).make("go(0, 1)").law(2, "1");
        run.refuses("call(0, 1, 1000)", -3).due("count(6)", 0).make("street(102, 2000, 0)").due("call(0, 1, 1000)", -3);
        run.due("count(6)", 1).make("shut(1, 0, 5)").refuses("call(0, 1, 1000)", -3).passTo(5).due("call(0, 1, 1000)", -3);
        run.due("count(6)", 2);
        // Of four stands just one has a way: it is asked once.
        Run once = run().make("corner()", "stand(2, 1)", "stand(2, 1)", "stand(2, 1)").ready(0, 1, 0).ready(1, 2, 2);
        once.make("go(0, 0)", "go(1, 2)").law(2, "1").due("call(0, 1, 1000)", -3).due("count(6)", 1);
        once.due("call(0, 1, 1000)", -3).due("count(6)", 2);
    }

    private static void firstInTurn() {
        CHECK.sentence("Terms", "in each the COACHES, the first one first.");
        Run run = run();
        for (int i = 0; i < 10; i++) {
            run.ready(i, i + 1, 0);
        }
        for (int i = 0; i < 10; i++) {
            run.make("go(" + (i + 5) % 10 + ", 0)");
        }
        for (int i = 0; i < 10; i++) {
            run.due("call(0, 1, 1000)", i).due("trip(" + i + ", 0)", (i + 5) % 10).due("turn(0, 0)", i < 9 ? (i + 6) % 10 : -1);
        }
        run.refuses("call(0, 1, 1000)", -3);
    }

    private static void firstWithoutWhy() {
        CHECK.sentence("Terms", "The first one that has no WHY comes.");
        // Coach 0 has no licence, 1 is not looked at, 2 refuses, 3 comes; 4, behind it, is not asked.
        Run run = run().make("coach(1, 0)", "look(0, 5)", "coach(2, 0)", "licence(1, 0, 0)");
        run.ready(2, 3, 0).ready(3, 4, 0).ready(4, 5, 0).make("stand(1, 1)", "go(2, 1)", "minutes(1)", "go(2, 0)", "minutes(1)");
        run.make("go(2, -1)", "go(0, 0)", "go(1, 0)", "go(2, 0)", "go(3, 0)", "go(4, 0)").law(2, "s<1000?1:p=6");
        run.due("call(0, 1, 1000)", 0).due("trip(0, 0)", 3).due("count(6)", 1);
        checkRefusal(run, 0, 2, 2, 0, 1);
        run.due("turn(0, 0)", 0).due("turn(0, 1)", 1).due("turn(0, 2)", 2).due("turn(0, 3)", 4).due("turn(0, 4)", -1);
        run.due("call(0, 1, 6000)", -3).due("count(6)", 3).due("call(0, 1, 1000)", 1).due("trip(1, 0)", 4);
        run.due("count(6)", 4).due("call(0, 1, 1000)", -3).due("count(6)", 5);
    }

    private static void whyLicence() {
        CHECK.sentence("Terms", "1 it has no LICENCE for the YEAR");
        Run run = run().make("coach(1, 0)", "look(0, 9999)", "go(0, 0)").due("why(0, 0, 1, 1000)", 1);
        run.refuses("call(0, 1, 1000)", -3).make("licence(0, 1, 0)").due("why(0, 0, 1, 1000)", 1);
        run.make("licence(0, 0, 0)").due("why(0, 0, 1, 1000)", 0);
        Run turn = run().ready(0, 1, 0).make("go(0, 0)").passTo(360 * DAY - 1).due("why(0, 0, 1, 1000)", 0);
        turn.make("minutes(1)").due("why(0, 0, 1, 1000)", 1).refuses("call(0, 1, 1000)", -3).make("licence(0, 2, 0)");
        turn.refuses("call(0, 1, 1000)", -3).make("licence(0, 1, 0)").due("call(0, 1, 1000)", 0);
    }

    private static void whyLooked() {
        CHECK.sentence("Terms", "2 it is not LOOKED AT up to TODAY");
        Run run = run().make("coach(1, 0)", "licence(0, 0, 0)", "go(0, 0)").due("why(0, 0, 1, 1000)", 2);
        run.refuses("call(0, 1, 1000)", -3).make("look(0, 0)").passTo(DAY - 1).due("why(0, 0, 1, 1000)", 0);
        run.make("minutes(1)").due("why(0, 0, 1, 1000)", 2).refuses("call(0, 1, 1000)", -3).make("look(0, 1)");
        run.due("why(0, 0, 1, 1000)", 0).make("look(0, 2)").due("why(0, 0, 1, 1000)", 0).due("call(0, 1, 1000)", 0);
    }

    private static void whyStrength() {
        CHECK.sentence("Terms", "3 its STRENGTH is less than 3 times all minutes it would DRIVE (WAY to the caller, TIME, "
            + "waiting), and 20");
        // From corner 0 to 5 it is 86 minutes; coach i is i minutes away from the stand: its strength 1000 - i there.
        Run run = new Run(CHECK).row(6, 1892).make("corner()", "street(6, 330, 0)", "corner()", "street(7, 220, 0)");
        run.make("stand(0, 3)").ready(0, 1, 0).ready(1, 2, 7).ready(2, 3, 6).make("go(0, 0)", "go(1, 0)", "go(2, 0)");
        run.make("minutes(3)").due("about(0, 2)", 1000).due("about(1, 2)", 998).due("about(2, 2)", 997);
        // 3 * 326 + 20 is 998.
        run.due("why(0, 0, 5, 1240)", 0).due("why(1, 0, 5, 1240)", 0).due("why(2, 0, 5, 1240)", 3);
        run.due("why(2, 0, 5, 1239)", 0).make("go(0, -1)", "go(1, -1)").refuses("call(0, 5, 1240)", -3);
        run.make("minutes(2)", "go(1, 0)", "minutes(2)").due("about(1, 2)", 994).refuses("call(0, 5, 1240)", -3);
        run.due("call(0, 5, 1239)", 0).due("trip(0, 0)", 2).due("trip(0, 11)", 997).refuses("call(0, 5, 1239)", -3);
        run.due("call(0, 5, 1238)", 1).due("trip(1, 11)", 994).passTo(329).due("about(2, 2)", 31).due("about(2, 0)", 3);
        run.passTo(332).due("about(2, 2)", 22).due("about(2, 0)", 4).due("about(1, 2)", 22);
    }

    private static void whyStrengthByParts() {
        CHECK.sentence("Terms", "all minutes it would DRIVE (WAY to the caller, TIME, waiting)");
        // 56 yards to the caller and 56 of the trip take 1 minute each, 2 together, though 112 yards take 2, too;
        // 165 and 165 take 2 each, though 330 yards take 3.
        Run run = new Run(CHECK).row(3, 165).make("stand(0, 1)").ready(0, 1, 0).make("go(0, 0)");
        run.due("call(1, 2, 1000)", 0).due("trip(0, 4)", 2).due("trip(0, 5)", 4).due("about(0, 3)", 4);
        // A weak coach: 23 corners of 2000 yards up and down make 1000 - 838 = 162; 47 minutes need 161, 48 need 164.
        Run weak = new Run(CHECK).row(24, 2000).make("stand(0, 1)", "stand(23, 1)").ready(0, 1, 0).make("go(0, 1)");
        weak.make("minutes(419)", "go(0, 0)", "minutes(419)").due("about(0, 2)", 162);
        weak.due("why(0, 0, 1, 1028)", 0).due("why(0, 0, 1, 1029)", 3);
        weak.due("why(0, 1, 0, 1009)", 0).due("why(0, 1, 0, 1010)", 3);
        weak.due("why(0, 1, 2, 1009)", 0).due("why(0, 1, 2, 1010)", 3).due("why(0, 0, 2, 1010)", 0);
        weak.due("why(0, 0, 2, 1011)", 3).refuses("call(0, 2, 1011)", -3).due("call(0, 2, 1010)", 0);
    }

    private static void whyRefuses() {
        CHECK.sentence("Terms", "4 it REFUSES: REFUSAL in force (AS KNOWN TODAY) is not 0.");
        Run run = runWithCoach().due("why(0, 0, 1, 1000)", 0);
        String[] texts = {"0", "1", "0-1", "2", "p-1", "1-p", "65536*32768", "65536*65536", "s-1000", "s-999"};
        int[] reasons = {0, 4, 4, 4, 0, 0, 4, 0, 0, 4};
        for (int i = 0; i < texts.length; i++) {
            run.law(2, texts[i]).due("why(0, 0, 1, 1000)", reasons[i]);
        }
        // Neither a law of fares nor one of a later day, nor one that was made ahead of the one in force.
        run.law(0, "0").law(1, "0").due("why(0, 0, 1, 1000)", 4).tape("0").make("law(2, 2)").due("why(0, 0, 1, 1000)", 4);
        run.passTo(2 * DAY - 1).due("call(0, 1, 1000)", -3).due("count(6)", 1).make("minutes(1)");
        run.due("why(0, 0, 1, 1000)", 0).tape("1").make("law(2, 3)").passTo(3 * DAY - 1).due("why(0, 0, 1, 1000)", 0);
        run.make("minutes(1)").due("why(0, 0, 1, 1000)", 4).law(2, "0").due("why(0, 0, 1, 1000)", 0).due("call(0, 1, 1000)", 0);
    }

    private static void whyOrder() {
        CHECK.sentence("Terms", "WHY one does not come, the first of");
        Run run = new Run(CHECK).row(2, 2000).make("stand(0, 1)", "coach(1, 0)", "go(0, 0)").law(2, "1");
        for (int i = 2; i < 14; i++) {
            run.make("corner()", "street(" + (100 * (i - 1) + i) + ", 2000, 0)");
        }
        // To corner 13 it is 237 minutes; with 240 of waiting 3 * 477 + 20 is more than 1000.
        run.due("why(0, 0, 13, 1240)", 1).due("why(0, 0, 1, 1000)", 1).make("look(0, 5)").due("why(0, 0, 13, 1240)", 1);
        run.make("licence(0, 0, 0)").due("why(0, 0, 13, 1240)", 3).due("why(0, 0, 13, 1000)", 4).passTo(6 * DAY);
        run.due("why(0, 0, 13, 1240)", 2).due("why(0, 0, 1, 1000)", 2).refuses("call(0, 13, 1240)", -3);
        run.make("look(0, 6)").refuses("call(0, 13, 1240)", -3).due("count(6)", 0).due("call(0, 13, 1000)", -3);
        run.due("count(6)", 1).law(2, "0").due("why(0, 0, 13, 1000)", 0).due("why(0, 0, 13, 1240)", 3);
    }

    private static void refusalsNoted() {
        CHECK.sentence("Terms", "Each one that REFUSES is noted");
        Run run = run().make("stand(1, 2)").ready(0, 1, 0).ready(1, 2, 0).ready(2, 3, 1).make("coach(4, 1)");
        run.make("go(0, 0)", "go(1, 0)", "go(2, 1)", "go(3, 1)").law(2, "w").due("why(0, 0, 1, 1001)", 4);
        // Asked by why() nothing is noted; nor is one that has another WHY.
        run.due("count(6)", 0).passTo(5).due("call(1, 0, 1001)", -3).due("count(6)", 3);
        checkRefusal(run, 0, 2, 5, 1, 0);
        checkRefusal(run, 1, 0, 5, 1, 0);
        checkRefusal(run, 2, 1, 5, 1, 0);
        run.due("call(0, 1, 1000)", 0).due("count(6)", 3).due("call(0, 1, 2001)", -3).due("count(6)", 5);
        checkRefusal(run, 3, 1, 5, 0, 1);
        checkRefusal(run, 4, 2, 5, 0, 1);
    }

    private static void refusalsFull() {
        CHECK.sentence("Terms", "is noted (the first 300 REFUSALS).");
        Run run = run().make("stand(1, 3)");
        for (int i = 0; i < 13; i++) {
            run.ready(i, i + 1, i < 10 ? 0 : 1).make("go(" + i + ", " + i / 10 + ")");
        }
        run.law(2, "p>1");
        for (int i = 1; i <= 23; i++) {
            run.due("call(0, 1, 2000)", -3).due("count(6)", 13 * i);
        }
        // 299 are noted; of the next 13 the first one alone.
        run.due("refusal(298, 0)", 12).due("refusal(299, 0)", -1).make("minutes(7)").due("call(1, 0, 2000)", -3);
        run.due("count(6)", 300);
        checkRefusal(run, 298, 12, 0, 0, 1);
        checkRefusal(run, 299, 10, 7, 1, 0);
        run.due("refusal(300, 0)", -1).refuses("call(1, 0, 2000)", -3).due("count(6)", 300).due("refusal(0, 0)", 0);
        // Those that refuse do so on; the first one that has no WHY comes all the same.
        run.due("why(0, 0, 1, 2000)", 4).due("call(0, 1, 1000)", 0).due("trip(0, 0)", 0).due("count(6)", 300);
    }

    private static void drives() {
        CHECK.sentence("Terms", "It DRIVES from then on: to the caller, the trip, the waiting; then it WAITS at the CORNER to "
            + "which the trip went.");
        Run run = run().make("corner()", "street(102, 220, 0)", "stand(2, 1)").ready(0, 1, 0).make("go(0, 0)");
        run.due("call(1, 2, 1004)", 0).due("about(0, 0)", 3).due("about(0, 1)", 2).due("about(0, 3)", 7).due("turn(0, 0)", -1);
        run.make("minutes(6)").due("about(0, 0)", 3).make("minutes(1)").due("about(0, 0)", 4).due("about(0, 1)", 2);
        run.due("about(0, 3)", -1).due("about(0, 4)", -1).due("turn(1, 0)", -1).make("minutes(1440)").due("about(0, 0)", 4);
        // Though the trip goes to its home it waits there, and is not asked.
        run.due("go(0, 1)", 0).due("call(2, 0, 1000)", 1).make("minutes(3)").due("about(0, 0)", 4).due("about(0, 1)", 0);
        run.refuses("call(0, 1, 1000)", -3).refuses("why(0, 0, 1, 1000)", -1);
    }

    private static void waysOfTheCall() {
        CHECK.sentence("Terms", "WAYS are as at the MINUTE of the CALL.");
        // From 0 to 1 110 yards, shut in the minutes 10 .. 19, or 1100 yards.
        Run run = new Run(CHECK).corners(2).make("street(1, 110, 0)", "street(1, 1100, 1)", "stand(0, 1)").ready(0, 1, 0);
        run.make("shut(0, 10, 20)", "go(0, 0)").passTo(9).due("call(0, 1, 1000)", 0).due("trip(0, 6)", 110);
        run.due("trip(0, 5)", 10).due("trip(0, 7)", 0).passTo(10).due("about(0, 0)", 4).due("go(0, -1)", 10).passTo(19);
        run.due("about(0, 0)", 2).passTo(20).due("about(0, 0)", 0).make("go(0, 0)", "shut(0, 25, 30)").passTo(25);
        run.due("why(0, 1, 0, 1000)", 0).due("call(1, 0, 1000)", 1).due("trip(1, 4)", 35).due("trip(1, 5)", 45);
        run.due("trip(1, 6)", 1100).due("trip(1, 7)", 1).passTo(30).due("trip(1, 5)", 45).due("about(0, 3)", 45);
        // What is shut or made later changes no trip.
        run.make("street(1, 1, 0)", "shut(1, 30, 99)").due("about(0, 3)", 45).due("trip(1, 6)", 1100).passTo(45);
        run.due("about(0, 0)", 4);
    }

    private static void whyNumbers() {
        CHECK.sentence("Promise 21", "WHY a COACH that STANDS would not come to such a CALL now; 0: it would.");
        Run run = runWithCoach().due("why(0, 0, 1, 1000)", 0).due("why(0, 1, 0, 6240)", 0);
        for (int wrong : new int[] {-1, 2, 24, MIN, MAX}) {
            run.refuses("why(0, " + wrong + ", 1, 1000)", -1).refuses("why(0, 0, " + wrong + ", 1000)", -1);
        }
        for (int wrong : new int[] {-1, 1, 30, MIN, MAX}) {
            run.refuses("why(" + wrong + ", 0, 1, 1000)", -1);
        }
        run.refuses("why(0, 0, 0, 1000)", -1).refuses("why(0, 1, 1, 1000)", -1).refuses("why(0, 0, 1, 0)", -1);
        run.refuses("why(0, 0, 1, 999)", -1).refuses("why(0, 0, 1, 1241)", -1).refuses("why(0, 0, 1, 7000)", -1);
        // It would come, though others stand ahead of it; it is asked for its own stand.
        run.ready(1, 9, 0).make("go(1, 0)").due("why(1, 0, 1, 1000)", 0).due("call(0, 1, 1000)", 0).due("trip(0, 0)", 0);
        // Asked by why(), all stays as it is, with a reason and without one.
        run.refuses("why(1, 0, 1, 1000)", 0).law(2, "1").refuses("why(1, 0, 1, 1000)", 4);
    }

    private static void whyStates() {
        CHECK.sentence("Promise 21", "NONE: also it does not STAND");
        Run run = run().make("stand(1, 1)").ready(0, 1, 0).refuses("why(0, 0, 1, 1000)", -1).make("go(0, 1)");
        run.refuses("why(0, 0, 1, 1000)", -1).make("minutes(1)").due("why(0, 0, 1, 1000)", 0).due("call(1, 0, 1000)", 0);
        run.refuses("why(0, 0, 1, 1000)", -1).make("minutes(1)").due("about(0, 0)", 4).refuses("why(0, 0, 1, 1000)", -1);
        run.make("go(0, -1)").due("about(0, 0)", 0).refuses("why(0, 0, 1, 1000)", -1).make("go(0, 0)");
        run.due("why(0, 0, 1, 1000)", 0);
    }

    private static void whyNoWay() {
        CHECK.sentence("Promise 21", "NO_WAY: of the trip, or to the caller.");
        Run run = runWithCoach().make("corner()", "corner()", "street(203, 110, 0)").refuses("why(0, 0, 2, 1000)", -5);
        run.refuses("why(0, 2, 0, 1000)", -5).refuses("why(0, 2, 3, 1000)", -5).refuses("why(0, 3, 2, 1000)", -5);
        run.make("shut(0, 1, 2)").due("why(0, 1, 0, 1000)", 0).passTo(1).refuses("why(0, 1, 0, 1000)", -5);
        run.passTo(2).due("why(0, 1, 0, 1000)", 0);
        // NONE is named ahead of NO_WAY, and NO_WAY stands ahead of what WHY tells.
        run.refuses("why(0, 2, 2, 1000)", -1).refuses("why(0, 0, 2, 7000)", -1).refuses("why(0, 0, 4, 1000)", -1);
        run.make("coach(9, 0)", "go(1, 0)").refuses("why(1, 0, 2, 1000)", -5).due("why(1, 0, 1, 1000)", 1);
        run.make("go(1, -1)").refuses("why(1, 0, 2, 1000)", -1);
    }

    private static void lastMinute() {
        CHECK.sentence("Terms", "MINUTE is a count, 0 at first, at most 719999");
        // A trip that is called for in the last minute ends behind it, and so is never at its end.
        Run run = run().make("coach(1, 0)", "licence(0, 1, 0)", "look(0, 499)", "go(0, 0)").passTo(719999);
        run.due("call(0, 1, 1240)", 0).due("trip(0, 5)", 720240).due("about(0, 3)", 720240);
    }

    private static void tripNumbers() {
        CHECK.sentence("Promise 23", "Of a TRIP: 0 COACH, 1 from, 2 to, 3 MINUTE of the CALL, 4 when the caller gets in, 5 its "
            + "end, 6 YARDS, 7 BAD STREETS, 8 persons, 9 waiting");
        Run run = new Run(CHECK).corners(4).make("street(1, 111, 0)", "street(102, 300, 1)", "street(203, 33, 1)");
        run.make("stand(3, 1)", "stand(0, 1)").ready(0, 1, 0).ready(1, 2, 0).make("go(1, 1)").passTo(1090);
        run.due("call(1, 3, 3017)", 0).due("call(1, 3, 1000)", -3);
        checkTrip(run, 0, 1, 1, 3, 1090, 1092, 1113, 333, 2, 3, 17, 1, 1000, 1);
        CHECK.sentence("Promise 23", "11 STRENGTH then, 12 the STAND.");
        run.passTo(1113).due("about(1, 2)", 931).make("go(1, 0)").due("call(3, 2, 6240)", 1);
        checkTrip(run, 1, 1, 3, 2, 1113, 1113, 1354, 33, 1, 6, 240, 1, 931, 0);
        checkTrip(run, 0, 1, 1, 3, 1090, 1092, 1113, 333, 2, 3, 17, 1, 1000, 1);
        CHECK.sentence("Promise 23", "-9: NONE.");
        for (int wrong : new int[] {-1, 13, MIN, MAX}) {
            run.refuses("trip(0, " + wrong + ")", -9);
        }
        for (int wrong : new int[] {-1, 2, 300, MIN, MAX}) {
            run.refuses("trip(" + wrong + ", 0)", -9);
        }
    }

    private static void tripNight() {
        CHECK.sentence("Promise 23", "10 NIGHT (1, 0; at the MINUTE of the CALL, as RISE and SET were told by then)");
        int[] minutes = {0, 359, 360, 1079, 1080, 1439, 1440, 1799, 1800};
        int[] nights = {1, 1, 0, 0, 1, 1, 1, 1, 0};
        for (int i = 0; i < minutes.length; i++) {
            Run run = runWithCoach().passTo(minutes[i]).due("call(0, 1, 1005)", 0).due("trip(0, 10)", nights[i]);
            // What is told later, and what comes while it drives, changes nothing.
            run.make("sun(0, " + (nights[i] == 1 ? "0, 1440)" : "0, 0)")).due("trip(0, 10)", nights[i]).make("minutes(10)");
            run.due("trip(0, 10)", nights[i]).due("night(" + minutes[i] + ")", 1 - nights[i]);
        }
        Run run = runWithCoach().make("sun(0, 100, 200)").passTo(99).due("call(0, 1, 1000)", 0).due("trip(0, 10)", 1);
        run.make("minutes(1)", "go(0, 0)", "minutes(99)", "sun(0, 0, 200)").due("call(0, 1, 1000)", 1);
        run.due("trip(1, 10)", 0).due("trip(0, 10)", 1);
    }

    private static void dueNumbers() {
        CHECK.sentence("Promise 24", "DUE of a TRIP AS KNOWN on DAY k (0 .. 9999): FARE (what 0), which KIND gives it (1). -9: "
            + "NONE, or there is no FARE.");
        Run run = runWithCoach().due("call(0, 1, 2000)", 0);
        run.refuses("due(0, 0, 0)", -9).refuses("due(0, 0, 1)", -9).refuses("due(0, 9999, 0)", -9).law(1, "p+1");
        run.due("due(0, 0, 0)", 3).due("due(0, 0, 1)", 1).due("due(0, 9999, 0)", 3).due("due(0, 9999, 1)", 1);
        for (int wrong : new int[] {-1, 10000, MIN, MAX}) {
            run.refuses("due(0, " + wrong + ", 0)", -9).refuses("due(0, " + wrong + ", 1)", -9);
        }
        for (int wrong : new int[] {-1, 2, MIN, MAX}) {
            run.refuses("due(0, 0, " + wrong + ")", -9);
        }
        for (int wrong : new int[] {-1, 1, 300, MIN, MAX}) {
            run.refuses("due(" + wrong + ", 0, 0)", -9).refuses("due(" + wrong + ", 0, 1)", -9);
        }
        // A law of REFUSAL gives no fare.
        runWithCoach().law(2, "0").due("call(0, 1, 2000)", 0).refuses("due(0, 0, 0)", -9).refuses("due(0, 0, 1)", -9);
    }

    private static void dueAsKnown() {
        CHECK.sentence("Terms", "DUE of a TRIP AS KNOWN on a DAY: FARE by LAWS in force on its DAY, AS KNOWN then.");
        // The trip begins in the last minute of day 2.
        Run run = runWithCoach().tape("2").make("law(0, 2)").tape("3").make("law(0, 3)").passTo(3 * DAY - 1);
        run.due("call(0, 1, 1002)", 0).due("due(0, 0, 0)", 2).due("due(0, 9999, 0)", 2).make("minutes(1)");
        run.tape("1").make("law(0, 2)").tape("0").make("law(0, 3)").due("due(0, 2, 0)", 2).due("due(0, 3, 0)", 1);
        run.due("due(0, 9999, 0)", 1).passTo(4 * DAY).law(1, "7").due("due(0, 4, 0)", 1).due("due(0, 4, 1)", 0).law(0, "9");
        run.due("due(0, 3, 0)", 1).due("due(0, 4, 0)", 7).due("due(0, 4, 1)", 1).due("due(0, 1, 0)", 2).due("due(0, 1, 1)", 0);
        // Of a trip ahead of the day from which the only law is in force, there is none.
        Run none = runWithCoach().tape("5").make("law(0, 1)").passTo(DAY - 1).due("call(0, 1, 1002)", 0).make("minutes(5)");
        none.due("due(0, 1, 0)", -9).make("go(0, 0)", "minutes(1)").due("call(0, 1, 1000)", 1).due("due(1, 1, 0)", 5);
    }

    private static void fareBounds() {
        CHECK.sentence("Terms", "FARE: of what the two FARE LAWS in force give (each 0 at least, 1000000 at most)");
        Run run = runWithCoach().due("call(0, 1, 1000)", 0);
        String[] texts = {"0-1", "0", "1", "99999*10+9", "99999*10+10", "99999*10+11", "65536*32768", "65536*32768-1"};
        int[] fares = {0, 0, 1, 999999, 1000000, 1000000, 0, 1000000};
        for (int i = 0; i < texts.length; i++) {
            run.law(0, texts[i]).due("due(0, 0, 0)", fares[i]).due("due(0, 0, 1)", 0);
            run.due("about(0, 8)", fares[i]).due("tried(" + i + ", -1, 9999)", fares[i]);
        }
        // Each is held to its bounds ahead of the choice.
        run.law(1, "0-9").due("due(0, 0, 0)", 0).due("due(0, 0, 1)", 1).law(0, "0-5").due("due(0, 0, 1)", 0);
        run.law(1, "0-4").due("due(0, 0, 1)", 0).law(1, "99999*99").due("due(0, 0, 1)", 0).law(0, "99999*999");
        run.due("due(0, 0, 0)", 1000000).due("due(0, 0, 1)", 0).law(1, "99999*10+9").due("due(0, 0, 1)", 1);
    }

    private static void fareOfTwo() {
        CHECK.sentence("Terms", "the lesser; of like ones by distance; with one of them alone that; none without any.");
        Run run = runWithCoach().due("call(0, 1, 1000)", 0).refuses("due(0, 0, 0)", -9).law(0, "10");
        run.due("due(0, 0, 0)", 10).due("due(0, 0, 1)", 0).law(1, "9").due("due(0, 0, 0)", 9).due("due(0, 0, 1)", 1);
        run.law(1, "10").due("due(0, 0, 0)", 10).due("due(0, 0, 1)", 0).law(1, "11").due("due(0, 0, 0)", 10);
        run.due("due(0, 0, 1)", 0).law(0, "0").law(1, "0").due("due(0, 0, 0)", 0).due("due(0, 0, 1)", 0);
        Run time = runWithCoach().due("call(0, 1, 1000)", 0).law(1, "0").due("due(0, 0, 0)", 0).due("due(0, 0, 1)", 1);
        time.tape("5").make("law(0, 1)").due("due(0, 0, 0)", 0).due("due(0, 0, 1)", 1).law(1, "99999*99");
        time.due("due(0, 0, 0)", 1000000).due("due(0, 0, 1)", 1);
    }

    private static void refusalNumbers() {
        CHECK.sentence("Promise 25", "REFUSAL i that was noted: 0 COACH, 1 MINUTE, 2 the caller's CORNER, 3 where to. NONE.");
        Run run = new Run(CHECK).row(4, 110).make("stand(1, 1)").ready(0, 1, 1).ready(1, 2, 1).make("go(1, 0)").law(2, "1");
        run.refuses("refusal(0, 0)", -1).passTo(DAY + 5).due("call(2, 3, 1000)", -3);
        checkRefusal(run, 0, 1, DAY + 5, 2, 3);
        for (int wrong : new int[] {-1, 4, MIN, MAX}) {
            run.refuses("refusal(0, " + wrong + ")", -1);
        }
        for (int wrong : new int[] {-1, 1, 300, MIN, MAX}) {
            run.refuses("refusal(" + wrong + ", 0)", -1);
        }
        run.passTo(2 * DAY).due("call(0, 1, 1000)", -3);
        checkRefusal(run, 1, 1, 2 * DAY, 0, 1);
        checkRefusal(run, 0, 1, DAY + 5, 2, 3);
    }

    private static void nameNight() {
        CHECK.sentence("Terms", "n 1 if it begins at NIGHT, else 0");
        int[] minutes = {359, 360, 1079, 1080};
        int[] nights = {1, 0, 0, 1};
        for (int i = 0; i < minutes.length; i++) {
            // By the minute of the call, though the caller gets in a minute later; by what was told by then.
            Run run = run().make("stand(1, 1)").ready(0, 1, 1).make("go(0, 1)").law(0, "n").law(2, "n").passTo(minutes[i]);
            run.due("why(0, 0, 1, 1000)", 4 * nights[i]).law(2, "0").due("call(0, 1, 1000)", 0).due("due(0, 0, 0)", nights[i]);
            run.make("sun(0, " + (nights[i] == 1 ? "0, 1440)" : "0, 0)")).due("due(0, 0, 0)", nights[i]);
        }
    }

    private static void nameWeekday() {
        CHECK.sentence("Terms", "a WEEKDAY is DAY % 7");
        for (int day : new int[] {0, 1, 5, 6, 7, 8, 13, 14, 359, 360, 361}) {
            Run run = runWithCoach().law(0, "d").law(2, "d=" + (day + 1) % 7).passTo(day * DAY).due("why(0, 0, 1, 1000)", 0);
            run.passTo((day + 1) * DAY - 1).due("why(0, 0, 1, 1000)", 0).due("call(0, 1, 1000)", 0);
            // The day of the call, though the trip ends on the next one.
            run.due("due(0, " + day + ", 0)", day % 7).make("minutes(1)", "go(0, 0)", "minutes(1)");
            run.due("due(0, " + (day + 1) + ", 0)", day % 7).due("why(0, 0, 1, 1000)", 4);
        }
    }

    private static void nameHour() {
        CHECK.sentence("Terms", "h the hour of the DAY (0 .. 23)");
        for (int minute : new int[] {0, 59, 60, 119, 120, 719, 720, 1379, 1380, 1439, 1440, 1499, 1500}) {
            Run run = runWithCoach().law(0, "h+100").law(2, "1-(h=" + minute / 60 % 24 + ")").passTo(minute);
            run.due("call(0, 1, 1000)", 0).make("minutes(60)").due("due(0, 1, 0)", 100 + minute / 60 % 24);
        }
        // It begins with the call, though the caller gets in in the next hour, and day.
        Run far = run().make("stand(1, 1)").ready(0, 7, 1).make("go(0, 1)").law(0, "d*100+h").law(2, "1-(d=0)*(h=23)");
        far.passTo(DAY - 1).due("why(0, 0, 1, 1000)", 0).due("call(0, 1, 1000)", 0).due("trip(0, 4)", DAY);
        far.due("due(0, 0, 0)", 23).passTo(2 * DAY).due("due(0, 2, 0)", 23).due("tried(0, -1, 0)", 23);
        far.due("tried(0, -1, 10001)", 0);
    }

    private static void nameRide() {
        CHECK.sentence("Terms", "t its TIME (of these YARDS, and minutes of waiting), w minutes of waiting");
        Run run = new Run(CHECK).corners(3).make("street(1, 110, 1)", "street(102, 1, 1)", "stand(1, 1)").ready(0, 1, 1);
        run.make("go(0, 0)").law(0, "y").law(0, "t").law(0, "w").law(0, "p").law(0, "b").law(0, "s").due("call(0, 2, 6240)", 0);
        int[] values = {111, 242, 240, 6, 2, 1000};
        for (int i = 0; i < values.length; i++) {
            run.due("tried(" + i + ", -1, 0)", values[i]);
        }
        run.make("minutes(300)", "go(0, 0)", "minutes(1)").due("call(0, 1, 1000)", 1);
        int[] shorter = {110, 1, 0, 1, 1, 1000 - 3 * 243 - 1};
        for (int i = 0; i < shorter.length; i++) {
            run.due("tried(" + i + ", -1, 0)", values[i] + shorter[i]);
        }
    }

    private static void nameStrength() {
        CHECK.sentence("Terms", "s the COACH's STRENGTH (when it was called).");
        Run run = runWithCoach().law(0, "s").law(2, "s<990").due("call(0, 1, 1002)", 0).due("due(0, 0, 0)", 1000);
        run.make("minutes(1)").due("due(0, 0, 0)", 1000).due("about(0, 2)", 997).make("minutes(2)", "go(0, 0)", "minutes(1)");
        run.due("about(0, 2)", 990).due("why(0, 0, 1, 1000)", 0).due("call(0, 1, 1000)", 1).due("due(1, 0, 0)", 990);
        run.make("minutes(1)", "go(0, 0)", "minutes(1)").due("about(0, 2)", 986).due("why(0, 0, 1, 1000)", 4);
        run.make("go(0, -1)", "minutes(100)").due("about(0, 2)", 1000).due("due(1, 0, 0)", 990).due("due(0, 0, 0)", 1000);
        run.due("about(0, 8)", 1990);
    }
}
