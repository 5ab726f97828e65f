import java.util.ArrayList;
import java.util.HashMap;
import java.util.List;
import java.util.Map;

/**
 * The document told a second time, in the plainest and slowest way: every row of streets is gone, every minute is
 * stepped, every text is cut into its parts. It takes the same calls and answers them from that.
 */
final class Model {
    private static final class Street {
        int a;
        int b;
        int yards;
        int bad;
        final List<int[]> spans = new ArrayList<>();
    }

    private static final class Coach {
        int plate;
        int home;
        int corner;
        int strength = 1000;
        int looked = -1;
        int state;
        int stand = -1;
        int arrival = -1;
        final Map<Integer, Integer> holders = new HashMap<>();
    }

    private static final class Stand {
        int corner;
        int places;
        final List<Integer> row = new ArrayList<>();
    }

    private record Law(int kind, int from, int made, String text) { }

    private record Way(int yards, int bad, List<Integer> corners) { }

    private record Lost(int sort, String plate, int from, int to) { }

    private record Found(int sort, int coach, int minute) { }

    private int now;
    private int corners;
    private int licences;
    private final int[] rise = new int[12];
    private final int[] set = new int[12];
    private final List<Street> streets = new ArrayList<>();
    private final List<Coach> coaches = new ArrayList<>();
    private final List<Stand> stands = new ArrayList<>();
    private final List<Law> laws = new ArrayList<>();
    private final List<int[]> trips = new ArrayList<>();
    private final List<int[]> refusals = new ArrayList<>();
    private final List<int[]> complaints = new ArrayList<>();
    private final List<Lost> losses = new ArrayList<>();
    private final List<Found> finds = new ArrayList<>();
    private StringBuilder tape = new StringBuilder();
    private List<Integer> told = List.of();

    Model() {
        java.util.Arrays.fill(rise, 360);
        java.util.Arrays.fill(set, 1080);
    }

    private static boolean in(int value, int least, int most) {
        return value >= least && value <= most;
    }

    private boolean isCorner(int c) {
        return in(c, 0, corners - 1);
    }

    // ---- the city

    int corner() {
        return corners == 24 ? -2 : corners++;
    }

    int street(int ends, int yards, int bad) {
        int a = Math.floorDiv(ends, 100);
        int b = Math.floorMod(ends, 100);
        if (!isCorner(a) || !isCorner(b) || a == b || !in(yards, 1, 2000) || !in(bad, 0, 1)) {
            return -1;
        }
        if (streets.size() == 60) {
            return -2;
        }
        Street s = new Street();
        s.a = a;
        s.b = b;
        s.yards = yards;
        s.bad = bad;
        streets.add(s);
        return streets.size() - 1;
    }

    int shut(int street, int from, int to) {
        if (!in(street, 0, streets.size() - 1) || from < now || to <= from || to > 720000) {
            return -1;
        }
        List<int[]> spans = streets.get(street).spans;
        if (spans.size() == 4) {
            return -2;
        }
        spans.add(new int[] {from, to});
        return spans.size();
    }

    int sun(int month, int r, int s) {
        if (!in(month, 0, 11) || !(0 <= r && r <= s && s <= 1440)) {
            return -1;
        }
        rise[month] = r;
        set[month] = s;
        return 1;
    }

    private Way best;

    private Way wayOf(int a, int b, int minute) {
        best = null;
        List<Integer> row = new ArrayList<>();
        row.add(a);
        goOn(row, b, minute, 0, 0);
        return best;
    }

    private void goOn(List<Integer> row, int b, int minute, int yards, int bad) {
        int at = row.get(row.size() - 1);
        if (at == b) {
            Way way = new Way(yards, bad, List.copyOf(row));
            best = best == null || isBetter(way, best) ? way : best;
            return;
        }
        for (Street s : streets) {
            boolean shut = s.spans.stream().anyMatch(p -> p[0] <= minute && minute < p[1]);
            int next = s.a == at ? s.b : s.b == at ? s.a : -1;
            if (!shut && next >= 0 && !row.contains(next)) {
                row.add(next);
                goOn(row, b, minute, yards + s.yards, bad + s.bad);
                row.remove(row.size() - 1);
            }
        }
    }

    private static boolean isBetter(Way a, Way b) {
        if (a.yards != b.yards) {
            return a.yards < b.yards;
        }
        if (a.bad != b.bad) {
            return a.bad < b.bad;
        }
        for (int i = 0; i < a.corners.size() && i < b.corners.size(); i++) {
            int difference = a.corners.get(i) - b.corners.get(i);
            if (difference != 0) {
                return difference < 0;
            }
        }
        return a.corners.size() < b.corners.size();
    }

    int way(int a, int b, int minute) {
        if (!isCorner(a) || !isCorner(b) || !in(minute, 0, 719999)) {
            return -1;
        }
        Way way = wayOf(a, b, minute);
        if (way == null) {
            return -5;
        }
        told = way.corners;
        return way.yards;
    }

    int step(int i) {
        return in(i, 0, told.size() - 1) ? told.get(i) : -1;
    }

    int night(int minute) {
        if (!in(minute, 0, 719999)) {
            return -1;
        }
        int month = minute / 1440 / 30 % 12;
        int place = minute % 1440;
        return place < rise[month] ? 1 : place < set[month] ? 0 : 1;
    }

    // ---- coaches, stands

    int coach(int plate, int home) {
        if (!in(plate, 1, 9999) || !isCorner(home)) {
            return -1;
        }
        if (coaches.stream().anyMatch(c -> c.plate == plate)) {
            return -4;
        }
        if (coaches.size() == 30) {
            return -2;
        }
        Coach c = new Coach();
        c.plate = plate;
        c.home = home;
        c.corner = home;
        coaches.add(c);
        return coaches.size() - 1;
    }

    private boolean isCoach(int coach) {
        return in(coach, 0, coaches.size() - 1);
    }

    int licence(int coach, int year, int holder) {
        if (!isCoach(coach) || !in(year, 0, 1999) || !in(holder, 0, 49)) {
            return -1;
        }
        if (coaches.get(coach).holders.containsKey(year)) {
            return -4;
        }
        if (licences == 200) {
            return -2;
        }
        licences++;
        coaches.get(coach).holders.put(year, holder);
        return 1;
    }

    int look(int coach, int day) {
        if (!isCoach(coach) || !in(day, now / 1440, 9999)) {
            return -9;
        }
        int before = coaches.get(coach).looked;
        coaches.get(coach).looked = day;
        return before;
    }

    int stand(int corner, int places) {
        if (!isCorner(corner) || !in(places, 1, 10)) {
            return -1;
        }
        if (stands.size() == 12) {
            return -2;
        }
        Stand s = new Stand();
        s.corner = corner;
        s.places = places;
        stands.add(s);
        return stands.size() - 1;
    }

    private static int time(int yards) {
        int minutes = 0;
        for (int left = yards; left > 0; left -= 110) {
            minutes++;
        }
        return minutes;
    }

    int go(int coach, int stand) {
        if (!isCoach(coach) || !in(stand, -1, stands.size() - 1)) {
            return -1;
        }
        Coach c = coaches.get(coach);
        if (c.state == 2 || c.state == 3 || c.state == 1 && c.stand == stand) {
            return -3;
        }
        int target = stand < 0 ? c.home : stands.get(stand).corner;
        Way way = wayOf(c.corner, target, now);
        if (way == null) {
            return -5;
        }
        if (c.state == 1) {
            stands.get(c.stand).row.remove((Integer) coach);
        }
        c.state = 2;
        c.corner = target;
        c.stand = stand;
        c.arrival = now + time(way.yards);
        if (c.arrival == now) {
            come(coach);
        }
        return time(way.yards);
    }

    private void come(int coach) {
        Coach c = coaches.get(coach);
        c.arrival = -1;
        if (c.state == 3) {
            c.state = 4;
        } else if (c.stand < 0) {
            c.state = 0;
        } else if (stands.get(c.stand).row.size() == stands.get(c.stand).places) {
            c.state = 4;
            c.stand = -1;
        } else {
            c.state = 1;
            stands.get(c.stand).row.add(coach);
        }
    }

    int about(int coach, int what) {
        if (!isCoach(coach) || !in(what, 0, 8)) {
            return -9;
        }
        Coach c = coaches.get(coach);
        int all = 0;
        int fares = 0;
        for (int i = 0; i < trips.size(); i++) {
            if (trips.get(i)[0] == coach) {
                all++;
                fares += Math.max(0, due(i, now / 1440, 0));
            }
        }
        int holder = c.holders.getOrDefault(now / 1440 / 360, -1);
        return new int[] {c.state, c.corner, c.strength, c.arrival, c.stand, holder, c.looked, all, fares}[what];
    }

    int turn(int stand, int i) {
        boolean is = in(stand, 0, stands.size() - 1) && in(i, 0, stands.get(stand).row.size() - 1);
        return is ? stands.get(stand).row.get(i) : -1;
    }

    // ---- laws

    int feed(int n, int v) {
        if (!in(n, 1, 4)) {
            return -1;
        }
        if (tape.length() + n > 160) {
            return -2;
        }
        for (int i = 0; i < n; i++) {
            tape.append((char) (v >>> 8 * i & 255));
        }
        return tape.length();
    }

    int law(int kind, int from) {
        if (!in(kind, 0, 2) || !in(from, 0, 9999)) {
            return -1;
        }
        if (laws.size() == 40) {
            return -2;
        }
        String text = tape.toString();
        tape = new StringBuilder();
        int fault = fault(text);
        if (fault >= 0) {
            return -100 - fault;
        }
        laws.add(new Law(kind, from, now / 1440, text));
        return laws.size() - 1;
    }

    /** Reads sign by sign, with what is open in a stack: '(' or '?' or, of a ? behind its colon, ':'. */
    static int fault(String text) {
        StringBuilder open = new StringBuilder();
        List<Boolean> compared = new ArrayList<>(List.of(false));
        boolean wanted = true;
        int digits = 0;
        for (int i = 0; i < text.length(); i++) {
            char c = text.charAt(i);
            boolean digit = c >= '0' && c <= '9';
            if (wanted && (digit || "ytwnpbdhs".indexOf(c) >= 0)) {
                wanted = false;
                digits = digit ? 1 : 5;
            } else if (digit && !wanted && digits < 5) {
                digits++;
            } else if (open.length() < 12 && (wanted ? c == '(' : c == '?')) {
                open.append(c);
                compared.add(false);
                wanted = true;
            } else if (!wanted && "+-*/%".indexOf(c) >= 0) {
                wanted = true;
            } else if (!wanted && "<=>".indexOf(c) >= 0 && !compared.get(compared.size() - 1)) {
                compared.set(compared.size() - 1, true);
                wanted = true;
            } else if (!wanted && (c == ')' || c == ':')) {
                while (open.length() > 0 && open.charAt(open.length() - 1) == ':') {
                    open.setLength(open.length() - 1);
                    compared.remove(compared.size() - 1);
                }
                if (open.length() == 0 || open.charAt(open.length() - 1) != (c == ')' ? '(' : '?')) {
                    return i;
                }
                open.setLength(open.length() - 1);
                compared.remove(compared.size() - 1);
                digits = 5;
                if (c == ':') {
                    open.append(':');
                    compared.add(false);
                    wanted = true;
                }
            } else {
                return i;
            }
        }
        boolean closed = open.indexOf("(") < 0 && open.indexOf("?") < 0;
        return wanted || !closed ? text.length() : -1;
    }

    /** Cuts a text at the sign that binds least. */
    static int worth(String text, Map<Character, Integer> names) {
        int choice = cut(text, "?", false);
        if (choice >= 0) {
            int other = choice + 1;
            for (int open = 1, depth = 0; other < text.length(); other++) {
                char c = text.charAt(other);
                depth += c == '(' ? 1 : c == ')' ? -1 : 0;
                open += depth > 0 ? 0 : c == '?' ? 1 : c == ':' ? -1 : 0;
                if (open == 0) {
                    break;
                }
            }
            boolean first = worth(text.substring(0, choice), names) != 0;
            return worth(first ? text.substring(choice + 1, other) : text.substring(other + 1), names);
        }
        for (String signs : new String[] {"<=>", "+-", "*/%"}) {
            int at = cut(text, signs, true);
            if (at >= 0) {
                int a = worth(text.substring(0, at), names);
                int b = worth(text.substring(at + 1), names);
                return joined(text.charAt(at), a, b);
            }
        }
        char c = text.charAt(0);
        if (c == '(') {
            return worth(text.substring(1, text.length() - 1), names);
        }
        return names.containsKey(c) ? names.get(c) : Integer.parseInt(text);
    }

    private static int cut(String text, String signs, boolean last) {
        int at = -1;
        int depth = 0;
        for (int i = 0; i < text.length(); i++) {
            char c = text.charAt(i);
            depth += c == '(' ? 1 : c == ')' ? -1 : 0;
            if (depth == 0 && signs.indexOf(c) >= 0 && (last || at < 0)) {
                at = i;
            }
        }
        return at;
    }

    private static int joined(char sign, int a, int b) {
        return switch (sign) {
            case '+' -> (int) ((long) a + b);
            case '-' -> (int) ((long) a - b);
            case '*' -> (int) ((long) a * b);
            case '/' -> b == 0 ? 0 : (int) ((long) a / b);
            case '%' -> b == 0 ? 0 : (int) ((long) a % b);
            case '<' -> a < b ? 1 : 0;
            case '=' -> a == b ? 1 : 0;
            default -> a > b ? 1 : 0;
        };
    }

    int inForce(int kind, int day, int k) {
        if (!in(kind, 0, 2) || !in(day, 0, 9999) || !in(k, 0, 9999)) {
            return -1;
        }
        int last = -9;
        for (int i = 0; i < laws.size(); i++) {
            Law law = laws.get(i);
            last = law.kind == kind && law.from <= day && law.made <= k ? i : last;
        }
        return last;
    }

    int says(int law, int yards, int wait, int what, int bad) {
        if (!in(law, 0, laws.size() - 1) || !in(yards, 0, 99999) || !in(wait, 0, 240) || !in(what, 0, 9999)) {
            return -2000000000;
        }
        if (what / 100 % 10 > 6 || what % 100 > 23 || bad < 0 || bad % 10 > 1) {
            return -2000000000;
        }
        Map<Character, Integer> names = new HashMap<>();
        names.put('y', yards);
        names.put('t', time(yards) + wait);
        names.put('w', wait);
        names.put('n', bad % 10);
        names.put('p', what / 1000);
        names.put('b', bad / 10);
        names.put('d', what / 100 % 10);
        names.put('h', what % 100);
        names.put('s', 1000);
        return worth(laws.get(law).text, names);
    }

    private Map<Character, Integer> names(int[] trip) {
        Map<Character, Integer> names = new HashMap<>();
        names.put('y', trip[6]);
        names.put('t', time(trip[6]) + trip[9]);
        names.put('w', trip[9]);
        names.put('n', trip[10]);
        names.put('p', trip[8]);
        names.put('b', trip[7]);
        names.put('d', trip[3] / 1440 % 7);
        names.put('h', trip[3] % 1440 / 60);
        names.put('s', trip[11]);
        return names;
    }

    // ---- trips

    private boolean isOrder(int from, int to, int what) {
        return isCorner(from) && isCorner(to) && from != to && in(what, 1000, 6240) && what % 1000 <= 240;
    }

    /** The trip of a coach that stands, as it would be; null without a way to the caller. */
    private int[] tripOf(int coach, int from, int to, int what) {
        Coach c = coaches.get(coach);
        Way ahead = wayOf(stands.get(c.stand).corner, from, now);
        Way way = wayOf(from, to, now);
        if (ahead == null) {
            return null;
        }
        int meets = now + time(ahead.yards);
        int end = meets + time(way.yards) + what % 1000;
        return new int[] {coach, from, to, now, meets, end, way.yards, way.bad, what / 1000, what % 1000,
            night(now), c.strength, c.stand};
    }

    private int whyNot(int[] trip) {
        Coach c = coaches.get(trip[0]);
        int refusing = inForce(2, now / 1440, now / 1440);
        if (!c.holders.containsKey(now / 1440 / 360)) {
            return 1;
        }
        if (c.looked < now / 1440) {
            return 2;
        }
        if (c.strength < 3 * (trip[5] - now) + 20) {
            return 3;
        }
        return refusing >= 0 && worth(laws.get(refusing).text, names(trip)) != 0 ? 4 : 0;
    }

    int call(int from, int to, int what) {
        if (!isOrder(from, to, what)) {
            return -1;
        }
        if (wayOf(from, to, now) == null) {
            return -5;
        }
        if (trips.size() == 300) {
            return -2;
        }
        List<int[]> asked = new ArrayList<>();
        for (int i = 0; i < stands.size(); i++) {
            Way way = wayOf(stands.get(i).corner, from, now);
            if (way != null) {
                asked.add(new int[] {way.yards, i});
            }
        }
        asked.sort((a, b) -> a[0] != b[0] ? a[0] - b[0] : a[1] - b[1]);
        for (int[] stand : asked) {
            for (int coach : stands.get(stand[1]).row) {
                int[] trip = tripOf(coach, from, to, what);
                int why = whyNot(trip);
                if (why == 4 && refusals.size() < 300) {
                    refusals.add(new int[] {coach, now, from, to});
                }
                if (why == 0) {
                    stands.get(stand[1]).row.remove((Integer) coach);
                    Coach c = coaches.get(coach);
                    c.state = 3;
                    c.stand = -1;
                    c.corner = to;
                    c.arrival = trip[5];
                    trips.add(trip);
                    return trips.size() - 1;
                }
            }
        }
        return -3;
    }

    int why(int coach, int from, int to, int what) {
        if (!isCoach(coach) || coaches.get(coach).state != 1 || !isOrder(from, to, what)) {
            return -1;
        }
        if (wayOf(from, to, now) == null) {
            return -5;
        }
        int[] trip = tripOf(coach, from, to, what);
        return trip == null ? -5 : whyNot(trip);
    }

    int minutes(int n) {
        if (!in(n, 1, 1440) || now + n > 719999) {
            return -1;
        }
        int[] gains = {2, 0, -1, -3, 0};
        for (int i = 0; i < n; i++) {
            for (Coach c : coaches) {
                c.strength = Math.max(0, Math.min(1000, c.strength + gains[c.state]));
            }
            now++;
            for (int coach = 0; coach < coaches.size(); coach++) {
                if (coaches.get(coach).arrival == now) {
                    come(coach);
                }
            }
        }
        return now;
    }

    int trip(int i, int what) {
        return in(i, 0, trips.size() - 1) && in(what, 0, 12) ? trips.get(i)[what] : -9;
    }

    private int clipped(int law, Map<Character, Integer> names) {
        return law < 0 ? -1 : Math.max(0, Math.min(1000000, worth(laws.get(law).text, names)));
    }

    int due(int trip, int k, int what) {
        if (!in(trip, 0, trips.size() - 1) || !in(k, 0, 9999) || !in(what, 0, 1)) {
            return -9;
        }
        int day = trips.get(trip)[3] / 1440;
        int byDistance = clipped(inForce(0, day, k), names(trips.get(trip)));
        int byTime = clipped(inForce(1, day, k), names(trips.get(trip)));
        if (byDistance < 0 && byTime < 0) {
            return -9;
        }
        boolean first = byDistance >= 0 && (byTime < 0 || byDistance <= byTime);
        return what == 1 ? (first ? 0 : 1) : (first ? byDistance : byTime);
    }

    int refusal(int i, int what) {
        return in(i, 0, refusals.size() - 1) && in(what, 0, 3) ? refusals.get(i)[what] : -1;
    }

    // ---- complaints, things

    int complain(int trip, int paid) {
        if (!in(trip, 0, trips.size() - 1) || !in(paid, 0, 1000000)) {
            return -1;
        }
        if (complaints.stream().anyMatch(c -> c[0] == trip)) {
            return -4;
        }
        complaints.add(new int[] {trip, paid});
        return complaints.size() - 1;
    }

    private String likeness(int complaint) {
        int[] trip = trips.get(complaints.get(complaint)[0]);
        return trip[6] / 1000 + " " + trip[10] + " " + trip[3] / 1440 % 7 + " " + trip[8];
    }

    private int over(int complaint) {
        int trip = complaints.get(complaint)[0];
        int due = due(trip, trips.get(trip)[3] / 1440, 0);
        return Math.max(0, complaints.get(complaint)[1] - (due < 0 ? 0 : due));
    }

    int judged(int i, int what) {
        if (!in(i, 0, complaints.size() - 1) || !in(what, 0, 5)) {
            return -9;
        }
        List<Integer> like = new ArrayList<>();
        for (int j = 0; j < i; j++) {
            if (likeness(i).equals(likeness(j))) {
                like.add(j);
            }
        }
        int latest = like.isEmpty() ? -1 : like.get(like.size() - 1);
        int overs = (int) like.stream().filter(j -> over(j) > 0).count();
        return new int[] {complaints.get(i)[0], complaints.get(i)[1], over(i), like.size(), latest, overs}[what];
    }

    int lost(int sort, int plate, int from, int to) {
        if (!in(sort, 0, 9) || !in(plate, 0, 14640) || !in(from, 0, 719999) || !in(to, from, 719999)) {
            return -1;
        }
        if (losses.size() == 60) {
            return -2;
        }
        String digits = Integer.toString(plate + 14641, 11).substring(1);
        losses.add(new Lost(sort, digits, from, to));
        return losses.size() - 1;
    }

    int found(int sort, int coach) {
        if (!in(sort, 0, 9) || !isCoach(coach)) {
            return -1;
        }
        if (finds.size() == 60) {
            return -2;
        }
        finds.add(new Found(sort, coach, now));
        return finds.size() - 1;
    }

    private boolean fit(Lost lost, Found found) {
        String plate = String.format("%04d", coaches.get(found.coach).plate);
        for (int i = 0; i < 4; i++) {
            if (lost.plate.charAt(i) != 'a' && lost.plate.charAt(i) != plate.charAt(i)) {
                return false;
            }
        }
        boolean was = false;
        for (int[] trip : trips) {
            was |= trip[0] == found.coach && Math.max(trip[3], lost.from) <= Math.min(trip[5] - 1, lost.to);
        }
        return was && lost.sort == found.sort && found.minute >= lost.from;
    }

    int joined(int lost) {
        if (!in(lost, 0, losses.size() - 1)) {
            return -1;
        }
        List<Found> fitting = finds.stream().filter(f -> fit(losses.get(lost), f)).toList();
        if (fitting.size() != 1 || losses.stream().filter(l -> fit(l, fitting.get(0))).count() != 1) {
            return -9;
        }
        for (int i = 0; i < finds.size(); i++) {
            if (fit(losses.get(lost), finds.get(i))) {
                return i;
            }
        }
        return -9;
    }

    int fits(int lost) {
        if (!in(lost, 0, losses.size() - 1)) {
            return -1;
        }
        return (int) finds.stream().filter(f -> fit(losses.get(lost), f)).count();
    }

    // ---- laws tried

    private boolean isLaw(int law, int kind) {
        return law == -1 || in(law, 0, laws.size() - 1) && laws.get(law).kind == kind;
    }

    int tried(int a, int b, int days) {
        if (!isLaw(a, 0) || !isLaw(b, 1) || !in(days, 0, 99999999) || days / 10000 > days % 10000) {
            return -1;
        }
        long together = 0;
        for (int[] trip : trips) {
            if (in(trip[3] / 1440, days / 10000, days % 10000)) {
                int byDistance = clipped(a, names(trip));
                int byTime = clipped(b, names(trip));
                int fare = byDistance < 0 ? byTime : byTime < 0 ? byDistance : Math.min(byDistance, byTime);
                together += Math.max(0, fare);
            }
        }
        return (int) Math.min(2000000000, together);
    }

    int count(int what) {
        int[] counts = {corners, streets.size(), coaches.size(), stands.size(), laws.size(), trips.size(),
            refusals.size(), complaints.size(), now, tape.length(), losses.size(), finds.size(), licences};
        return in(what, 0, 12) ? counts[what] : -1;
    }
}
