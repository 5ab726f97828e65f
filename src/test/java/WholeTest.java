/** The document's first sentence, a clause at a time: what each part of the city is for, in an ordinary run. */
public final class WholeTest {
    private static final int DAY = 1440;
    private static final int ANY_PLATE = 14640;
    private static final Check CHECK = new Check();

    private WholeTest() {
    }

    public static void main(String[] args) {
        streets();
        badAtNight();
        turns();
        licences();
        horses();
        looks();
        fares();
        textsWithFaults();
        lawsAsKnown();
        calls();
        tripsByMinutes();
        complaints();
        lostThings();
        lawsTried();
        CHECK.end();
    }

    private static Run run() {
        return new Run(CHECK);
    }

    /** Corners 0 to 2, 1100 yards each, a stand of three places at each, and told coaches that stand at the first. */
    private static Run city(int coaches) {
        Run run = run().row(3, 1100).make("stand(0, 3)", "stand(1, 3)", "stand(2, 3)");
        for (int coach = 0; coach < coaches; coach++) {
            run.ready(coach, 100 + coach, 0).due("go(" + coach + ", 0)", 0);
        }
        return run;
    }

    private static void streets() {
        CHECK.sentence("Terms", "A city's hackney coaches: streets that are shut for hours");
        Run run = run().corners(3).make("street(1, 500, 0)", "street(102, 500, 0)", "street(2, 1400, 0)");
        run.due("shut(0, 120, 240)", 1).due("way(0, 2, 119)", 1000).due("step(1)", 1).due("step(2)", 2);
        run.due("way(0, 2, 120)", 1400).due("step(1)", 2).due("step(2)", -1).due("way(0, 1, 239)", 1900);
        run.due("way(0, 2, 240)", 1000).due("shut(2, 180, 300)", 1).due("way(0, 2, 180)", -5).due("way(0, 2, 240)", 1000);
        // A coach goes by the streets that are open when it sets out.
        run.make("stand(2, 1)").ready(0, 1, 0).passTo(120).due("go(0, 0)", 13).passTo(132).due("about(0, 0)", 2);
        run.passTo(133).due("about(0, 0)", 1).due("about(0, 1)", 2).passTo(180).due("go(0, -1)", -5);
    }

    private static void badAtNight() {
        CHECK.sentence("Terms", "and bad at night");
        Run run = city(2).make("corner()", "street(203, 550, 1)").law(0, "y/10+n*b*200");
        run.due("call(0, 3, 1000)", 0).due("trip(0, 7)", 1).due("trip(0, 10)", 1).due("due(0, 0, 0)", 475);
        run.passTo(720).due("call(0, 3, 1000)", 1).due("trip(1, 7)", 1).due("trip(1, 10)", 0).due("due(1, 0, 0)", 275);
        // The refusal of a bad street by night alone.
        run.law(2, "n*b").due("go(0, 0)", 25).due("go(1, 0)", -3).passTo(780).due("go(1, 0)", 25).passTo(900);
        run.due("why(0, 0, 3, 1000)", 0).passTo(1080).due("why(0, 0, 3, 1000)", 4).due("why(0, 0, 2, 1000)", 0);
        run.due("call(0, 3, 1000)", -3).due("count(6)", 2).due("call(0, 2, 1000)", 2);
    }

    private static void turns() {
        CHECK.sentence("Terms", "stands with turns");
        Run run = city(3).due("turn(0, 0)", 0).due("turn(0, 1)", 1).due("turn(0, 2)", 2).due("turn(0, 3)", -1);
        run.due("call(0, 1, 1000)", 0).due("trip(0, 0)", 0).due("turn(0, 0)", 1).due("turn(0, 1)", 2).due("turn(0, 2)", -1);
        // Who comes again is the last one.
        run.make("minutes(10)", "go(0, 0)", "minutes(10)").due("turn(0, 0)", 1).due("turn(0, 2)", 0);
        run.due("call(0, 1, 1000)", 1).due("trip(1, 0)", 1).due("call(0, 1, 1000)", 2).due("trip(2, 0)", 2);
        run.due("turn(0, 0)", 0).due("turn(0, 1)", -1).due("call(0, 1, 1000)", 3).due("trip(3, 0)", 0);
        run.due("call(0, 1, 1000)", -3).due("turn(0, 0)", -1);
    }

    private static void licences() {
        CHECK.sentence("Terms", "licences with one holder a year");
        Run run = run().corners(1).make("coach(5, 0)", "coach(6, 0)").due("about(0, 5)", -1);
        run.due("licence(0, 0, 7)", 1).due("licence(0, 0, 8)", -4).due("licence(0, 0, 7)", -4).due("about(0, 5)", 7);
        // A person may hold more than one, and a coach have another holder next year.
        run.due("licence(1, 0, 7)", 1).due("about(1, 5)", 7).due("licence(0, 1, 8)", 1).due("about(0, 5)", 7);
        run.due("count(12)", 3).passTo(360 * DAY).due("about(0, 5)", 8).due("about(1, 5)", -1);
    }

    private static void horses() {
        CHECK.sentence("Terms", "horses that tire");
        Run run = city(1).due("about(0, 2)", 1000).due("call(0, 2, 1060)", 0).passTo(80).due("about(0, 2)", 760);
        run.due("about(0, 0)", 4).passTo(200).due("about(0, 2)", 760).due("go(0, 0)", 20).passTo(220).due("about(0, 2)", 740);
        run.due("why(0, 0, 1, 1230)", 0).due("why(0, 0, 1, 1231)", 3).due("call(0, 1, 1231)", -3).due("go(0, -1)", 0);
        // At home they rest, and gain again what they have lost.
        run.passTo(300).due("about(0, 2)", 900).passTo(350).due("about(0, 2)", 1000).passTo(351).due("about(0, 2)", 1000);
    }

    private static void looks() {
        CHECK.sentence("Terms", "and are looked at");
        Run run = run().row(2, 110).make("stand(0, 1)", "coach(1, 0)", "licence(0, 0, 0)", "go(0, 0)").due("about(0, 6)", -1);
        run.due("why(0, 0, 1, 1000)", 2).due("call(0, 1, 1000)", -3).due("look(0, 1)", -1).due("about(0, 6)", 1);
        run.due("why(0, 0, 1, 1000)", 0).passTo(2 * DAY - 1).due("why(0, 0, 1, 1000)", 0).make("minutes(1)");
        run.due("why(0, 0, 1, 1000)", 2).due("look(0, 1)", -9).due("look(0, 2)", 1).due("call(0, 1, 1000)", 0);
    }

    private static void fares() {
        CHECK.sentence("Terms", "fares by distance or time");
        Run run = city(3).law(0, "100+y/10").law(1, "100+t*9").due("call(0, 1, 1000)", 0).due("call(0, 1, 1005)", 1);
        // By distance 210; by time 190, and 235 with waiting.
        run.due("due(0, 0, 0)", 190).due("due(0, 0, 1)", 1).due("due(1, 0, 0)", 210).due("due(1, 0, 1)", 0);
        run.due("call(0, 2, 1000)", 2).due("due(2, 0, 0)", 280).due("due(2, 0, 1)", 1);
    }

    private static void textsWithFaults() {
        CHECK.sentence("Terms", "from laws that are texts read from bytes with their first fault");
        Run run = run().make("feed(3, 3287929)").due("count(9)", 3).due("law(0, 0)", 0).due("says(0, 70, 0, 0, 0)", 72);
        run.tape("y>1000?5:2").due("law(0, 0)", 1).due("says(1, 1000, 0, 0, 0)", 2).due("says(1, 1001, 0, 0, 0)", 5);
        // Of two faults the first is told.
        run.tape("y+*z").due("law(0, 0)", -102).tape("y+z*").due("law(0, 0)", -102).tape("y+t*").due("law(0, 0)", -104);
        run.due("count(4)", 2);
    }

    private static void lawsAsKnown() {
        CHECK.sentence("Terms", "in force as known on a day");
        Run run = city(2).law(0, "50").due("call(0, 1, 1000)", 0).passTo(3 * DAY).tape("70").due("law(0, 2)", 1);
        run.tape("90").due("law(0, 0)", 2).due("call(0, 1, 1000)", 1);
        run.due("inForce(0, 0, 2)", 0).due("inForce(0, 3, 2)", 0).due("inForce(0, 3, 3)", 2).due("inForce(0, 0, 3)", 2);
        run.tape("60").due("law(0, 4)", 3).due("inForce(0, 3, 3)", 2).due("inForce(0, 4, 3)", 3).due("inForce(0, 4, 2)", 0);
        run.due("due(0, 0, 0)", 50).due("due(0, 2, 0)", 50).due("due(0, 3, 0)", 90).due("due(1, 2, 0)", 50);
        run.due("due(1, 3, 0)", 90).due("about(0, 8)", 90).due("about(1, 8)", 90);
    }

    private static void calls() {
        CHECK.sentence("Terms", "calls that go to the first in turn who does not refuse");
        Run run = city(3).make("coach(200, 0)", "licence(3, 0, 3)", "look(3, 9999)", "go(3, 1)").passTo(10);
        // Coaches 0 and 1 come too tired for what the law asks, coach 2 does not.
        run.due("go(0, 1)", 10).due("go(1, 1)", 10).passTo(20).due("turn(1, 0)", 3).due("turn(1, 1)", 0).due("turn(1, 2)", 1);
        run.law(2, "s<1000").due("why(3, 1, 2, 1000)", 4).due("why(0, 1, 2, 1000)", 4).due("why(2, 1, 2, 1000)", 0);
        run.due("call(1, 2, 1000)", 0).due("trip(0, 0)", 2).due("trip(0, 12)", 0).due("trip(0, 4)", 30);
        run.due("count(6)", 3).due("refusal(0, 0)", 3).due("refusal(1, 0)", 0).due("refusal(2, 0)", 1);
        run.due("call(1, 2, 1000)", -3).due("count(6)", 6).law(2, "s<990").due("call(1, 2, 1000)", 1).due("trip(1, 0)", 3);
    }

    private static void tripsByMinutes() {
        CHECK.sentence("Terms", "trips stepped by minutes");
        Run run = city(1).due("call(1, 2, 1007)", 0).due("trip(0, 3)", 0).due("trip(0, 4)", 10).due("trip(0, 5)", 27);
        for (int minute = 1; minute < 27; minute++) {
            run.due("minutes(1)", minute).due("about(0, 0)", 3).due("about(0, 1)", 2).due("about(0, 3)", 27);
            run.due("about(0, 2)", 1000 - 3 * minute);
        }
        run.due("minutes(1)", 27).due("about(0, 0)", 4).due("about(0, 1)", 2).due("about(0, 3)", -1).due("about(0, 2)", 919);
        run.due("minutes(1)", 28).due("about(0, 0)", 4).due("about(0, 2)", 919);
        Run atOnce = city(1).due("call(1, 2, 1007)", 0).due("minutes(28)", 28).due("about(0, 0)", 4).due("about(0, 2)", 919);
        atOnce.due("about(0, 1)", 2).due("about(0, 3)", -1);
    }

    private static void complaints() {
        CHECK.sentence("Terms", "complaints judged with like cases");
        Run run = city(3).law(0, "y/10").due("call(0, 1, 1000)", 0).due("call(0, 1, 1000)", 1).due("call(0, 2, 1000)", 2);
        run.due("complain(1, 150)", 0).due("complain(2, 150)", 1).due("complain(0, 90)", 2);
        run.due("judged(0, 2)", 40).due("judged(0, 3)", 0).due("judged(0, 4)", -1).due("judged(0, 5)", 0);
        run.due("judged(1, 2)", 0).due("judged(1, 3)", 0).due("judged(1, 4)", -1).due("judged(1, 5)", 0);
        run.due("judged(2, 2)", 0).due("judged(2, 3)", 1).due("judged(2, 4)", 0).due("judged(2, 5)", 1);
        CHECK.sentence("Terms", "A COMPLAINT of a TRIP, one each, with what was PAID");
        run.due("judged(0, 0)", 1).due("judged(0, 1)", 150).due("judged(1, 0)", 2).due("judged(1, 1)", 150);
        run.due("judged(2, 0)", 0).due("judged(2, 1)", 90).refuses("complain(0, 91)", -4).due("judged(2, 1)", 90);
        run.refuses("complain(3, 5)", -1).due("count(7)", 3);
    }

    private static void lostThings() {
        CHECK.sentence("Terms", "lost things joined by told marks alone");
        Run run = city(3).due("call(0, 1, 1000)", 0).due("call(0, 1, 1000)", 1).passTo(5).due("call(0, 2, 1000)", 2).passTo(30);
        // Sort, plate and span are told; each alone may tell two coaches apart.
        run.due("found(1, 0)", 0).due("found(2, 1)", 1).due("found(2, 2)", 2).due("found(2, 0)", 3);
        run.due("lost(1, " + ANY_PLATE + ", 0, 9)", 0).due("joined(0)", 0);
        run.due("lost(2, " + plate(10, 10, 10, 1) + ", 0, 9)", 1).due("joined(1)", 1);
        run.due("lost(2, " + ANY_PLATE + ", 20, 24)", 2).due("joined(2)", 2).due("fits(2)", 1);
        run.due("lost(2, " + ANY_PLATE + ", 0, 9)", 3).due("fits(3)", 3).due("joined(3)", -9);
        // The third one is now told by two.
        run.due("joined(1)", -9).due("joined(2)", -9).due("joined(0)", 0);
    }

    private static int plate(int a, int b, int c, int d) {
        return ((a * 11 + b) * 11 + c) * 11 + d;
    }

    private static void lawsTried() {
        CHECK.sentence("Terms", "and each law tried on the same trips.");
        Run run = city(3).law(0, "y/10").law(1, "t*9").law(0, "n*1000+p").due("call(0, 1, 1000)", 0);
        run.due("call(0, 2, 2000)", 1).passTo(720).due("call(0, 1, 3010)", 2);
        run.due("tried(0, -1, 0)", 440).due("tried(-1, 1, 0)", 450).due("tried(0, 1, 0)", 380).due("tried(2, -1, 0)", 2006);
        run.due("tried(2, 1, 0)", 273).due("tried(-1, -1, 0)", 0).due("due(0, 0, 0)", 90).due("about(0, 8)", 90);
    }
}
