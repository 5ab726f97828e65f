/** The sentences of 'Terms' on what is refused and on the calls of an object. */
public final class RefusedTest {
    private static final int MIN = Integer.MIN_VALUE;
    private static final int MAX = Integer.MAX_VALUE;
    private static final Check CHECK = new Check();

    private RefusedTest() {
    }

    public static void main(String[] args) {
        constants();
        noSuchThing();
        fullAnswers();
        stateAnswers();
        changesNothing();
        extremeNumbers();
        changesAllTheSame();
        ownMemory();
        promisedCalls();
        CHECK.end();
    }

    /** A city in which there is one of each thing, and a coach in each state; MINUTE 1500. */
    private static Run richRun() {
        Run run = new Run(CHECK).row(3, 220).make("corner()", "shut(1, 700, 710)", "shut(0, 5000, 6000)", "sun(0, 300, 900)");
        run.make("stand(0, 1)", "stand(1, 3)", "stand(3, 1)").ready(0, 1, 0).ready(1, 22, 0).ready(2, 333, 1).ready(3, 4444, 1);
        run.ready(4, 5555, 1).make("licence(0, 1, 9)", "coach(9999, 2)", "go(2, 1)", "go(3, 1)").law(0, "50+y/10+w");
        run.law(1, "t*5+p").law(2, "p=6").make("way(0, 2, 0)").due("call(0, 1, 6003)", -3).due("call(0, 1, 2003)", 0);
        run.make("complain(0, 90)", "lost(3, 14640, 0, 9)", "found(3, 2)").passTo(1490).make("go(4, 0)").passTo(1498);
        // Now coach 4 stands at stand 0, coach 3 at stand 1; 2 waits, and 0 and 5 rest; 1 goes.
        run.make("go(1, 1)").due("call(1, 2, 1005)", 1).make("complain(1, 50)", "minutes(1)", "go(2, 1)", "minutes(1)");
        return run.tape("1+y").due("about(0, 0)", 0).due("about(1, 0)", 1).due("about(2, 0)", 1).due("about(3, 0)", 3)
            .due("about(4, 0)", 1).make("go(1, 0)").due("about(1, 0)", 2);
    }

    private static void constants() {
        CHECK.sentence("Terms", "NONE (-1): there is no such thing, or a number is not as said; FULL (-2); STATE (-3): as told; "
            + "THERE (-4); NO_WAY (-5). NO_VALUE is -2000000000.");
        CHECK.due("NONE", HackneyStands.NONE, -1);
        CHECK.due("FULL", HackneyStands.FULL, -2);
        CHECK.due("STATE", HackneyStands.STATE, -3);
        CHECK.due("THERE", HackneyStands.THERE, -4);
        CHECK.due("NO_WAY", HackneyStands.NO_WAY, -5);
        CHECK.due("NO_VALUE", HackneyStands.NO_VALUE, -2000000000);
    }

    private static void noSuchThing() {
        CHECK.sentence("Terms", "there is no such thing");
        // The number behind the last one of each thing, and what stands behind its limit.
        Run run = richRun();
        for (int corner : new int[] {4, 24}) {
            run.refuses("street(" + corner + ", 5, 0)", -1).refuses("way(0, " + corner + ", 0)", -1);
            run.refuses("coach(77, " + corner + ")", -1).refuses("stand(" + corner + ", 1)", -1);
            run.refuses("call(" + corner + ", 0, 1000)", -1).refuses("why(4, 0, " + corner + ", 1000)", -1);
        }
        for (int coach : new int[] {6, 30}) {
            run.refuses("licence(" + coach + ", 0, 0)", -1).refuses("look(" + coach + ", 5)", -9);
            run.refuses("go(" + coach + ", -1)", -1).refuses("about(" + coach + ", 0)", -9);
            run.refuses("why(" + coach + ", 0, 1, 1000)", -1).refuses("found(0, " + coach + ")", -1);
        }
        run.refuses("shut(2, 2000, 2001)", -1).refuses("shut(60, 2000, 2001)", -1).refuses("go(0, 3)", -1);
        run.refuses("go(0, 12)", -1).refuses("turn(3, 0)", -1).refuses("turn(12, 0)", -1).refuses("trip(2, 0)", -9);
        run.refuses("trip(300, 0)", -9).refuses("due(2, 0, 0)", -9).refuses("complain(2, 0)", -1).refuses("refusal(2, 0)", -1);
        run.refuses("judged(2, 0)", -9).refuses("fits(1)", -1).refuses("joined(1)", -1).refuses("tried(3, -1, 0)", -1);
        run.refuses("says(3, 0, 0, 0, 0)", -2000000000).refuses("step(3)", -1).refuses("turn(0, 1)", -1);
    }

    private static void fullAnswers() {
        CHECK.sentence("Terms", "FULL (-2)");
        // All that can be full is, but for trips and the tape.
        Run run = new Run(CHECK).corners(24);
        for (int i = 0; i < 60; i++) {
            run.make("street(1, 5, 0)", "lost(0, 0, 0, 0)");
        }
        for (int i = 0; i < 30; i++) {
            run.make("coach(" + (i + 1) + ", 0)");
        }
        for (int i = 0; i < 60; i++) {
            run.make("found(0, 0)");
        }
        for (int i = 0; i < 200; i++) {
            run.make("licence(0, " + i + ", 0)");
        }
        for (int i = 0; i < 12; i++) {
            run.make("stand(0, 1)");
        }
        run.make("shut(0, 0, 1)", "shut(0, 0, 1)", "shut(0, 0, 1)", "shut(0, 0, 1)").refuses("shut(0, 0, 1)", -2);
        run.refuses("corner()", -2).refuses("street(1, 5, 0)", -2).refuses("coach(31, 0)", -2).refuses("stand(0, 1)", -2);
        run.refuses("licence(0, 200, 0)", -2).refuses("lost(0, 0, 0, 0)", -2).refuses("found(0, 0)", -2);
    }

    private static void stateAnswers() {
        CHECK.sentence("Terms", "STATE (-3): as told");
        Run run = richRun().refuses("go(1, 0)", -3).refuses("go(1, -1)", -3).refuses("go(3, 1)", -3).refuses("go(3, -1)", -3);
        run.refuses("go(2, 1)", -3).refuses("go(4, 0)", -3).make("go(4, -1)", "go(2, -1)").refuses("call(0, 2, 1000)", -3);
    }

    private static void changesNothing() {
        CHECK.sentence("Terms", "What is refused changes nothing.");
        Run run = richRun();
        String[] none = {"street(0, 5, 0)", "street(2, 0, 0)", "street(2, 2001, 0)", "street(2, 5, 2)", "shut(0, 1499, 9000)",
            "shut(0, 9000, 9000)", "shut(0, 9000, 720001)", "sun(12, 0, 1)", "sun(1, 2, 1)", "way(0, 1, 720000)", "step(9)",
            "night(-1)", "night(720000)", "coach(0, 0)", "coach(10000, 0)", "licence(0, 2000, 0)", "licence(0, 5, 50)",
            "stand(0, 0)", "stand(0, 11)", "go(0, -2)", "turn(1, -1)", "feed(0, 5)", "feed(5, 5)", "law(3, 0)",
            "law(0, 10000)", "inForce(3, 0, 0)", "inForce(0, 10000, 0)", "call(0, 0, 1000)", "call(0, 1, 999)",
            "call(0, 1, 7000)", "call(0, 1, 1241)", "why(0, 0, 1, 1000)", "why(3, 0, 1, 1000)", "why(4, 0, 1, 7000)",
            "minutes(0)", "minutes(1441)", "refusal(0, 4)", "complain(0, -1)", "complain(0, 1000001)",
            "lost(10, 0, 0, 0)", "lost(0, 14641, 0, 0)", "lost(0, 0, 5, 4)", "found(10, 0)", "joined(-1)", "fits(-1)",
            "tried(1, -1, 0)", "tried(-1, 0, 0)", "tried(0, 1, 10000)", "count(13)"};
        for (String call : none) {
            run.refuses(call, -1);
        }
        String[] noneApart = {"look(0, 0)", "look(0, 10000)", "about(0, 9)", "trip(0, 13)", "due(0, 0, 2)", "due(0, -1, 0)",
            "judged(0, 6)", "judged(-1, 0)"};
        for (String call : noneApart) {
            run.refuses(call, -9);
        }
        run.refuses("way(0, 3, 0)", -5).refuses("go(0, 2)", -5).refuses("call(0, 3, 1000)", -5).refuses("why(4, 3, 0, 1000)", -5);
        run.refuses("coach(22, 1)", -4).refuses("licence(0, 1, 3)", -4).refuses("complain(0, 5)", -4).refuses("go(4, 0)", -3);
        run.refuses("says(0, 100000, 0, 0, 0)", -2000000000).refuses("says(0, 0, 0, 0, 2)", -2000000000);
        // The tape, the way told last and the rows are what they were.
        run.due("count(9)", 3).due("step(1)", 1).due("step(2)", 2).due("turn(0, 0)", 4).due("turn(1, 0)", 2);
        run.due("law(0, 0)", 3).due("says(3, 41, 0, 0, 0)", 42).due("coach(8, 0)", 6).due("corner()", 4).due("stand(0, 1)", 3);
    }

    /** Each number of each call as small and as great as an int can be, one at a time. */
    private static void extremeNumbers() {
        CHECK.sentence("Terms", "or a number is not as said");
        String[][] calls = {{"street", "2", "5", "0"}, {"shut", "0", "9000", "9001"}, {"sun", "0", "5", "6"},
            {"way", "0", "1", "0"}, {"coach", "77", "0"}, {"licence", "0", "7", "7"}, {"stand", "0", "1"}, {"go", "0", "0"},
            {"turn", "0", "0"}, {"law", "0", "0"}, {"inForce", "0", "0", "0"}, {"call", "0", "1", "1000"},
            {"why", "4", "0", "1", "1000"}, {"refusal", "0", "0"}, {"complain", "1", "0"}, {"lost", "0", "0", "0", "0"},
            {"found", "0", "0"}, {"joined", "0"}, {"fits", "0"}, {"tried", "0", "1", "0"}, {"count", "0"}, {"minutes", "1"},
            {"night", "0"}, {"step", "0"}};
        String[][] apart = {{"look", "0", "5"}, {"about", "0", "0"}, {"trip", "0", "0"}, {"due", "0", "0", "0"},
            {"judged", "0", "0"}};
        String[][] noValue = {{"says", "0", "0", "0", "0", "0"}};
        Run run = richRun();
        checkExtremes(run, calls, -1);
        checkExtremes(run, apart, -9);
        checkExtremes(run, noValue, -2000000000);
        run.refuses("feed(" + MIN + ", 0)", -1).refuses("feed(" + MAX + ", 0)", -1);
    }

    private static void checkExtremes(Run run, String[][] calls, int want) {
        for (String[] call : calls) {
            for (int i = 1; i < call.length; i++) {
                for (int number : new int[] {MIN, MIN + 1, -100000, MAX - 1, MAX}) {
                    StringBuilder text = new StringBuilder(call[0] + "(");
                    for (int j = 1; j < call.length; j++) {
                        text.append(j > 1 ? ", " : "").append(j == i ? "" + number : call[j]);
                    }
                    run.refuses(text + ")", want);
                }
            }
        }
    }

    /** What the document lets a refused call change nevertheless. */
    private static void changesAllTheSame() {
        CHECK.sentence("Promise 20", "(REFUSALS are noted all the same)");
        Run run = richRun().due("count(6)", 2).due("call(0, 1, 6000)", -3).due("count(6)", 4).due("count(5)", 2);
        CHECK.sentence("Promise 17", "(it is empty then, too)");
        run.tape("+").due("law(0, 0)", -104).due("count(9)", 0).due("count(4)", 3);
    }

    private static void ownMemory() {
        CHECK.sentence("Terms", "All memory is the class's own.");
        // Three objects, in turns: each is as if it were alone.
        HackneyStands[] objects = {new HackneyStands(), new HackneyStands(), new HackneyStands()};
        for (int step = 0; step < 8; step++) {
            for (int i = 0; i < objects.length; i++) {
                live(objects[i], i + 1, step);
            }
        }
        for (int i = 0; i < objects.length; i++) {
            HackneyStands alone = new HackneyStands();
            for (int step = 0; step < 8; step++) {
                live(alone, i + 1, step);
            }
            CHECK.due("what is unlike in object " + i, State.of(objects[i]).firstUnlike(State.of(alone)), -1);
        }
        int fresh = State.of(new HackneyStands()).firstUnlike(State.of(new HackneyStands()));
        CHECK.due("what is unlike in a new object", fresh, -1);
        CHECK.due("minute of a new object", new HackneyStands().count(8), 0);
    }

    private static void live(HackneyStands x, int n, int step) {
        switch (step) {
            case 0: x.corner(); x.corner(); x.street(1, 110 * n, 0); x.sun(0, 100 * n, 1000); break;
            case 1: x.stand(0, n); x.coach(n, 0); x.licence(0, 0, n); x.look(0, 10 * n); x.go(0, 0); break;
            case 2: x.feed(2, '1' + n + 256 * '+'); x.feed(1, '0' + n); x.law(0, 0); x.feed(1, 'p'); x.law(2, n); break;
            case 3: x.way(0, 1, 0); x.call(0, 1, 1000 * n + n); break;
            case 4: x.minutes(100 * n); x.complain(0, n); x.shut(0, 400, 400 + n); break;
            case 5: x.lost(n, 14640, 0, n); x.found(n, 0); break;
            case 6: x.go(0, 0); x.minutes(n); x.feed(n, 0x34343434); break;
            default: x.call(0, 1, 1000); break;
        }
    }

    private static void promisedCalls() {
        CHECK.sentence("Terms", "An object is used for at most 512 calls after it has been made; what later calls answer is free.");
        Run run = new Run(CHECK);
        for (int i = 1; i < 512; i++) {
            run.due("minutes(1)", i);
        }
        run.due("minutes(1)", 512);
        Run mixed = richRun();
        for (int i = 0; i < 400; i++) {
            mixed.due("way(0, 2, " + i + ")", 440);
        }
        mixed.due("law(0, 0)", 3).due("says(3, 7, 0, 0, 0)", 8);
    }
}
