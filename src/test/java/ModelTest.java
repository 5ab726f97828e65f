import java.util.Random;

/** Runs of calls by chance (of told seeds), each answered as the model answers it. */
public final class ModelTest {
    private static final int RUNS = 1500;
    private static final int CALLS = 480;
    private static final Check CHECK = new Check();

    private final Random chance;
    private final HackneyStands x = new HackneyStands();
    private final Model m = new Model();
    private final int run;
    private String call;

    private ModelTest(int run) {
        this.run = run;
        this.chance = new Random(run);
    }

    public static void main(String[] args) {
        for (int run = 0; run < RUNS; run++) {
            new ModelTest(run).play();
            new ModelTest(run).read();
        }
        CHECK.end();
    }

    private void same(String told, int got, int due) {
        CHECK.promise("run " + run);
        CHECK.due(told, got, due);
    }

    /** A number from least to most, now and then one beside them. */
    private int about(int least, int most) {
        int luck = chance.nextInt(60);
        if (luck == 0) {
            return least - 1;
        }
        if (luck == 1) {
            return most + 1;
        }
        return most < least ? least : least + chance.nextInt(most - least + 1);
    }

    private int oneOf(int... numbers) {
        return numbers[chance.nextInt(numbers.length)];
    }

    private void play() {
        int corners = 2 + chance.nextInt(6);
        for (int i = 0; i < corners; i++) {
            same("corner()", x.corner(), m.corner());
        }
        int streets = corners + chance.nextInt(5);
        for (int i = 0; i < streets; i++) {
            street();
        }
        int coaches = 1 + chance.nextInt(6);
        for (int i = 0; i < coaches; i++) {
            coach();
        }
        for (int i = 0; i < coaches; i++) {
            ready(i);
            stand();
            go();
        }
        for (int i = 0; i < CALLS; i++) {
            step();
        }
        everything();
    }

    private void ready(int coach) {
        if (chance.nextInt(6) > 0) {
            same("licence", x.licence(coach, 0, 1), m.licence(coach, 0, 1));
            same("look", x.look(coach, 9000), m.look(coach, 9000));
        }
    }

    /** Reads texts sign by sign, most of the signs such as may go on, so that much is open at once. */
    private void read() {
        for (int texts = 0; texts < 3; texts++) {
            StringBuilder text = new StringBuilder();
            int length = 1 + chance.nextInt(160);
            boolean goesOn = true;
            for (int tries = 0; goesOn && text.length() < length && tries < 2000; tries++) {
                text.append("((((?????::))<=>+-*/%0123456789ywp ".charAt(chance.nextInt(35)));
                goesOn = Model.fault(text.toString()) != text.length() - 1;
                if (!goesOn && chance.nextInt(300) > 0) {
                    text.setLength(text.length() - 1);
                    goesOn = true;
                }
            }
            if (texts > 0) {
                close(text);
            }
            for (int i = 0; i < text.length(); i++) {
                same("feed", x.feed(1, text.charAt(i)), m.feed(1, text.charAt(i)));
            }
            same("law of " + text, x.law(0, 0), m.law(0, 0));
            int law = m.count(4) - 1;
            same("says of " + text, x.says(law, 12, 34, 5612, 71), m.says(law, 12, 34, 5612, 71));
        }
    }

    /** Ends a text that ends too early, if there is room. */
    private static void close(StringBuilder text) {
        while (text.length() < 160 && Model.fault(text.toString()) == text.length()) {
            for (char sign : new char[] {')', ':', '1'}) {
                text.append(sign);
                if (Model.fault(text.toString()) != text.length() - 1) {
                    break;
                }
                text.setLength(text.length() - 1);
            }
        }
    }

    private void step() {
        int kind = chance.nextInt(100);
        if (kind < 2) {
            extreme();
        } else if (kind < 10) {
            go();
        } else if (kind < 22) {
            call();
        } else if (kind < 36) {
            minutes();
        } else if (kind < 44) {
            law();
        } else if (kind < 56) {
            askCity();
        } else if (kind < 62) {
            changeCity();
        } else if (kind < 70) {
            askFleet();
        } else if (kind < 80) {
            askLaws();
        } else if (kind < 90) {
            askTrips();
        } else {
            things();
        }
    }

    private void street() {
        int a = about(0, m.count(0) - 1);
        int b = about(0, m.count(0) - 1);
        int yards = chance.nextInt(4) > 0 ? oneOf(100, 110, 200, 220, 300, 330, 1000) : about(1, 2000);
        int bad = about(0, 1);
        same("street", x.street(100 * a + b, yards, bad), m.street(100 * a + b, yards, bad));
    }

    private void coach() {
        int plate = chance.nextInt(3) > 0 ? oneOf(1, 12, 112, 1112, 9999, 1000, 2112) : about(1, 9999);
        int home = about(0, m.count(0) - 1);
        same("coach", x.coach(plate, home), m.coach(plate, home));
    }

    private void stand() {
        int corner = about(0, m.count(0) - 1);
        int places = chance.nextInt(3) > 0 ? 1 + chance.nextInt(3) : about(1, 10);
        same("stand", x.stand(corner, places), m.stand(corner, places));
    }

    private void go() {
        int coach = about(0, m.count(2) - 1);
        int stand = about(-1, m.count(3) - 1);
        same("go(" + coach + ", " + stand + ")", x.go(coach, stand), m.go(coach, stand));
    }

    private void call() {
        int from = about(0, m.count(0) - 1);
        int to = about(0, m.count(0) - 1);
        int what = 1000 * about(1, 6) + oneOf(0, 0, 1, 5, 30, 100, 200, 240, 241);
        for (int coach = 0; coach < m.count(2); coach++) {
            same("why", x.why(coach, from, to, what), m.why(coach, from, to, what));
        }
        same("call(" + from + ", " + to + ", " + what + ")", x.call(from, to, what), m.call(from, to, what));
    }

    private void minutes() {
        int n = oneOf(1, 1, 2, 3, 5, 10, 20, 60, 200, 700, 1440, about(1, 1440));
        same("minutes(" + n + ")", x.minutes(n), m.minutes(n));
    }

    private void law() {
        String text = text(chance.nextInt(6));
        if (chance.nextInt(3) == 0) {
            int at = chance.nextInt(text.length());
            char sign = "()?:<=>+-*/%0123456789ytwnpbdhsx !".charAt(chance.nextInt(34));
            text = text.substring(0, at) + (chance.nextInt(5) > 0 ? sign : "") + text.substring(at + 1);
        }
        for (int i = 0; i < text.length(); i += 4) {
            int n = Math.min(4, text.length() - i);
            int v = 0;
            for (int j = n - 1; j >= 0; j--) {
                v = v << 8 | text.charAt(i + j);
            }
            same("feed", x.feed(n, v), m.feed(n, v));
        }
        int kind = about(0, 2);
        int from = chance.nextInt(3) > 0 ? about(0, m.count(8) / 1440 + 2) : about(0, 9999);
        same("law of " + text, x.law(kind, from), m.law(kind, from));
    }

    /** A text of the grammar; of kind 0 or less a small one. */
    private String text(int depth) {
        int kind = depth <= 0 ? chance.nextInt(2) : chance.nextInt(10);
        switch (kind) {
            case 0: return "" + "ytwnpbdhs".charAt(chance.nextInt(9));
            case 1: return "" + oneOf(0, 1, 2, 3, 7, 10, 99, 1000, 65536, 99999);
            case 2: return "(" + text(depth - 1) + ")";
            case 3: return text(depth - 1) + "?" + text(depth - 1) + ":" + text(depth - 1);
            case 4: return "(" + text(depth - 2) + "=" + text(depth - 2) + ")";
            case 5: return text(depth - 2) + "><=".charAt(chance.nextInt(3)) + text(depth - 2);
            default: return text(depth - 1) + "+-*/%".charAt(chance.nextInt(5)) + text(depth - 1);
        }
    }

    private void askCity() {
        int a = about(0, m.count(0) - 1);
        int b = about(0, m.count(0) - 1);
        int minute = chance.nextInt(2) > 0 ? Math.max(0, m.count(8) + about(-300, 300)) : about(0, 719999);
        same("way(" + a + ", " + b + ", " + minute + ")", x.way(a, b, minute), m.way(a, b, minute));
        for (int i = -1; i <= m.count(0); i++) {
            same("step(" + i + ")", x.step(i), m.step(i));
        }
        same("night(" + minute + ")", x.night(minute), m.night(minute));
    }

    private void changeCity() {
        int kind = chance.nextInt(8);
        if (kind == 0) {
            street();
        } else if (kind == 1) {
            coach();
        } else if (kind == 2) {
            stand();
        } else if (kind == 3) {
            int month = about(0, 11);
            int rise = about(0, 1440);
            int set = chance.nextInt(3) > 0 ? Math.min(1440, rise + chance.nextInt(700)) : about(0, 1440);
            same("sun", x.sun(month, rise, set), m.sun(month, rise, set));
        } else {
            int street = about(0, m.count(1) - 1);
            int from = m.count(8) + about(0, 300);
            int to = chance.nextInt(8) > 0 ? from + about(1, 500) : about(0, 720000);
            same("shut", x.shut(street, from, to), m.shut(street, from, to));
        }
    }

    private void askFleet() {
        int coach = about(0, m.count(2) - 1);
        for (int what = -1; what <= 9; what++) {
            same("about(" + coach + ", " + what + ")", x.about(coach, what), m.about(coach, what));
        }
        int stand = about(0, m.count(3) - 1);
        for (int i = -1; i <= 10; i++) {
            same("turn(" + stand + ", " + i + ")", x.turn(stand, i), m.turn(stand, i));
        }
        int year = about(0, chance.nextInt(2) > 0 ? 1 : 1999);
        int holder = about(0, 49);
        same("licence", x.licence(coach, year, holder), m.licence(coach, year, holder));
        if (chance.nextInt(4) == 0) {
            int day = m.count(8) / 1440 + about(0, 400);
            same("look", x.look(coach, day), m.look(coach, day));
        }
    }

    private void askLaws() {
        int law = about(0, m.count(4) - 1);
        int yards = about(0, oneOf(10, 2000, 99999));
        int wait = about(0, 240);
        int what = 1000 * about(0, 9) + 100 * about(0, 6) + about(0, 23);
        int bad = 10 * about(0, 20) + about(0, 1);
        same("says", x.says(law, yards, wait, what, bad), m.says(law, yards, wait, what, bad));
        int kind = about(0, 2);
        int days = m.count(8) / 1440 + 2;
        int day = about(0, days);
        int known = about(0, days);
        same("inForce", x.inForce(kind, day, known), m.inForce(kind, day, known));
        int other = about(-1, m.count(4) - 1);
        int span = 10000 * about(0, days) + about(0, days);
        same("tried", x.tried(law, other, span), m.tried(law, other, span));
        same("tried", x.tried(other, -1, span), m.tried(other, -1, span));
        same("tried", x.tried(-1, other, span), m.tried(-1, other, span));
    }

    private void askTrips() {
        int trip = about(0, m.count(5) - 1);
        for (int what = -1; what <= 13; what++) {
            same("trip(" + trip + ", " + what + ")", x.trip(trip, what), m.trip(trip, what));
        }
        int known = about(0, chance.nextInt(3) > 0 ? m.count(8) / 1440 + 1 : 9999);
        for (int what = -1; what <= 2; what++) {
            same("due(" + trip + ", " + known + ", " + what + ")", x.due(trip, known, what), m.due(trip, known, what));
        }
        int refusal = about(0, m.count(6) - 1);
        for (int what = -1; what <= 4; what++) {
            same("refusal(" + refusal + ", " + what + ")", x.refusal(refusal, what), m.refusal(refusal, what));
        }
    }

    private static final int[] EXTREMES = {
        Integer.MIN_VALUE, Integer.MIN_VALUE + 1, -720000, -10000, -1000, -100, -1, 0, 1, 2, 3, 99, 100, 101, 1000,
        1001, 1440, 9999, 10000, 10001, 14640, 719999, 720000, 1000000, Integer.MAX_VALUE - 1, Integer.MAX_VALUE,
    };

    /** A call with the least and the most that an int can be, and much between. */
    private void extreme() {
        int a = oneOf(EXTREMES);
        int b = oneOf(EXTREMES);
        int c = oneOf(EXTREMES);
        int d = oneOf(EXTREMES);
        int e = oneOf(EXTREMES);
        String told = " of " + a + ", " + b + ", " + c + ", " + d + ", " + e;
        switch (chance.nextInt(30)) {
            case 0: same("street" + told, x.street(a, b, c), m.street(a, b, c)); break;
            case 1: same("shut" + told, x.shut(a, b, c), m.shut(a, b, c)); break;
            case 2: same("sun" + told, x.sun(a, b, c), m.sun(a, b, c)); break;
            case 3: same("way" + told, x.way(a, b, c), m.way(a, b, c)); break;
            case 4: same("step" + told, x.step(a), m.step(a)); break;
            case 5: same("night" + told, x.night(a), m.night(a)); break;
            case 6: same("coach" + told, x.coach(a, b), m.coach(a, b)); break;
            case 7: same("licence" + told, x.licence(a, b, c), m.licence(a, b, c)); break;
            case 8: same("look" + told, x.look(a, b), m.look(a, b)); break;
            case 9: same("stand" + told, x.stand(a, b), m.stand(a, b)); break;
            case 10: same("go" + told, x.go(a, b), m.go(a, b)); break;
            case 11: same("about" + told, x.about(a, b), m.about(a, b)); break;
            case 12: same("turn" + told, x.turn(a, b), m.turn(a, b)); break;
            case 13: same("feed" + told, x.feed(a, b), m.feed(a, b)); break;
            case 14: same("law" + told, x.law(a, b), m.law(a, b)); break;
            case 15: same("inForce" + told, x.inForce(a, b, c), m.inForce(a, b, c)); break;
            case 16: same("says" + told, x.says(a, b, c, d, e), m.says(a, b, c, d, e)); break;
            case 17: same("call" + told, x.call(a, b, c), m.call(a, b, c)); break;
            case 18: same("why" + told, x.why(a, b, c, d), m.why(a, b, c, d)); break;
            case 19: same("minutes" + told, x.minutes(a), m.minutes(a)); break;
            case 20: same("trip" + told, x.trip(a, b), m.trip(a, b)); break;
            case 21: same("due" + told, x.due(a, b, c), m.due(a, b, c)); break;
            case 22: same("refusal" + told, x.refusal(a, b), m.refusal(a, b)); break;
            case 23: same("complain" + told, x.complain(a, b), m.complain(a, b)); break;
            case 24: same("judged" + told, x.judged(a, b), m.judged(a, b)); break;
            case 25: same("lost" + told, x.lost(a, b, c, d), m.lost(a, b, c, d)); break;
            case 26: same("found" + told, x.found(a, b), m.found(a, b)); break;
            case 27: same("joined, fits" + told, x.joined(a) + x.fits(b), m.joined(a) + m.fits(b)); break;
            case 28: same("tried" + told, x.tried(a, b, c), m.tried(a, b, c)); break;
            default: same("count" + told, x.count(a), m.count(a)); break;
        }
    }

    private void things() {
        int trip = about(0, m.count(5) - 1);
        int paid = about(0, oneOf(10, 1000, 1000000));
        same("complain", x.complain(trip, paid), m.complain(trip, paid));
        int sort = chance.nextInt(8) > 0 ? chance.nextInt(2) : about(0, 9);
        int coach = about(0, m.count(2) - 1);
        if (chance.nextInt(3) > 0) {
            same("found", x.found(sort, coach), m.found(sort, coach));
        }
        int plate = 0;
        int known = chance.nextInt(2) > 0 ? 0 : Math.abs(m.count(2) > 0 ? coach : 0) * 1112 % 10000;
        for (int i = 1000; i > 0; i /= 10) {
            plate = plate * 11 + (chance.nextInt(3) > 0 ? 10 : chance.nextInt(2) > 0 ? 1 : known / i % 10);
        }
        int from = Math.max(0, m.count(8) - chance.nextInt(400));
        int to = from + about(0, 300);
        same("lost", x.lost(sort, plate, from, to), m.lost(sort, plate, from, to));
        int lost = about(0, m.count(10) - 1);
        same("fits(" + lost + ")", x.fits(lost), m.fits(lost));
        same("joined(" + lost + ")", x.joined(lost), m.joined(lost));
        int complaint = about(0, m.count(7) - 1);
        for (int what = -1; what <= 6; what++) {
            same("judged(" + complaint + ", " + what + ")", x.judged(complaint, what), m.judged(complaint, what));
        }
    }

    private void everything() {
        for (int what = -1; what <= 13; what++) {
            same("count(" + what + ")", x.count(what), m.count(what));
        }
        for (int lost = 0; lost < m.count(10); lost++) {
            same("joined(" + lost + ")", x.joined(lost), m.joined(lost));
        }
        for (int coach = 0; coach < m.count(2); coach++) {
            for (int what = 0; what <= 8; what++) {
                same("about(" + coach + ", " + what + ")", x.about(coach, what), m.about(coach, what));
            }
        }
    }
}
