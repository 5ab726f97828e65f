import java.util.Arrays;

/** A city's hackney coaches, as ../shared/DOC.md promises; its words stand in capitals there. */
public final class HackneyStands {
    public static final int NONE = -1, FULL = -2, STATE = -3, THERE = -4, NO_WAY = -5, NO_VALUE = -2000000000;

    // The NONE of those calls in whose answers -1 has a meaning of its own.
    private static final int NONE_APART = -9;

    private static final int MINUTES = 720000;
    private static final int MINUTES_A_DAY = 1440;
    private static final int DAYS = 10000;
    private static final int DAYS_A_WEEK = 7;
    private static final int DAYS_A_MONTH = 30;
    private static final int DAYS_A_YEAR = 360;
    private static final int YARDS_A_MINUTE = 110;
    private static final int YEARS = 2000;
    private static final int HOLDERS = 50;
    private static final int PERSONS = 6;
    private static final int WAITING = 240;
    private static final int MOST_PAID = 1000000;
    private static final int MOST_TRIED = 2000000000;

    private int now;
    private final City city;
    private final Fleet fleet;
    private final LawBook book;
    private final Trips trips;
    private final Complaints complaints;
    private final Things things;

    public HackneyStands() {
        now = 0;
        city = new City();
        fleet = new Fleet();
        book = new LawBook();
        trips = new Trips();
        complaints = new Complaints();
        things = new Things();
    }

    // ---- the city

    public int corner() {
        return city.addCorner();
    }

    public int street(int ends, int yards, int bad) {
        int a = ends / 100;
        int b = ends % 100;
        if (!city.isCorner(a) || !city.isCorner(b) || a == b) {
            return NONE;
        }
        if (yards < 1 || yards > 2000 || bad < 0 || bad > 1) {
            return NONE;
        }
        return city.addStreet(a, b, yards, bad);
    }

    public int shut(int street, int from, int to) {
        if (!city.streets.has(street) || from < now || from >= to || to > MINUTES) {
            return NONE;
        }
        return city.addSpan(street, from, to);
    }

    public int sun(int month, int rise, int set) {
        if (month < 0 || month >= City.MONTHS || rise < 0 || rise > set || set > MINUTES_A_DAY) {
            return NONE;
        }
        city.tellSun(month, rise, set);
        return 1;
    }

    public int way(int a, int b, int minute) {
        if (!city.isCorner(a) || !city.isCorner(b) || !isMinute(minute)) {
            return NONE;
        }
        city.measure(b, minute);
        int yards = city.yardsFrom(a);
        if (yards < 0) {
            return NO_WAY;
        }
        city.keepSteps(a, b);
        return yards;
    }

    public int step(int i) {
        return city.stepAt(i);
    }

    public int night(int minute) {
        if (!isMinute(minute)) {
            return NONE;
        }
        return city.nightIn(minute);
    }

    // ---- coaches, stands

    public int coach(int plate, int home) {
        if (plate < 1 || plate > 9999 || !city.isCorner(home)) {
            return NONE;
        }
        if (fleet.hasPlate(plate)) {
            return THERE;
        }
        return fleet.addCoach(plate, home);
    }

    public int licence(int coach, int year, int holder) {
        if (!fleet.coaches.has(coach) || year < 0 || year >= YEARS || holder < 0 || holder >= HOLDERS) {
            return NONE;
        }
        if (fleet.holderOf(coach, year) >= 0) {
            return THERE;
        }
        return fleet.addLicence(coach, year, holder);
    }

    public int look(int coach, int day) {
        if (!fleet.coaches.has(coach) || day < today() || day >= DAYS) {
            return NONE_APART;
        }
        int before = fleet.coaches.get(coach, Fleet.LOOKED);
        fleet.coaches.set(coach, Fleet.LOOKED, day);
        return before;
    }

    public int stand(int corner, int places) {
        if (!city.isCorner(corner) || places < 1 || places > Fleet.MOST_PLACES) {
            return NONE;
        }
        return fleet.addStand(corner, places);
    }

    public int go(int coach, int stand) {
        if (!fleet.coaches.has(coach) || stand < -1 || stand >= fleet.stands.rows) {
            return NONE;
        }
        if (fleet.isMoving(coach) || fleet.isStandingAt(coach, stand)) {
            return STATE;
        }
        int target = stand < 0 ? fleet.coaches.get(coach, Fleet.HOME) : fleet.stands.get(stand, Fleet.PLACE);
        city.measure(target, now);
        int yards = city.yardsFrom(fleet.coaches.get(coach, Fleet.CORNER));
        if (yards < 0) {
            return NO_WAY;
        }
        int time = timeOf(yards);
        fleet.leaveRow(coach);
        fleet.setOut(coach, Fleet.GOES, target, stand, now + time);
        if (time == 0) {
            fleet.arrive(coach);
        }
        return time;
    }

    public int about(int coach, int what) {
        if (!fleet.coaches.has(coach)) {
            return NONE_APART;
        }
        switch (what) {
            case 0: return fleet.coaches.get(coach, Fleet.DOES);
            case 1: return fleet.coaches.get(coach, Fleet.CORNER);
            case 2: return fleet.coaches.get(coach, Fleet.STRENGTH);
            case 3: return fleet.coaches.get(coach, Fleet.ARRIVAL);
            case 4: return fleet.coaches.get(coach, Fleet.STAND);
            case 5: return fleet.holderOf(coach, thisYear());
            case 6: return fleet.coaches.get(coach, Fleet.LOOKED);
            case 7: return trips.tripsOf(coach);
            case 8: return earned(coach);
            default: return NONE_APART;
        }
    }

    public int turn(int stand, int i) {
        return fleet.coachInRow(stand, i);
    }

    // ---- laws

    public int feed(int n, int v) {
        if (n < 1 || n > 4) {
            return NONE;
        }
        return book.reader.addBytes(n, v);
    }

    public int law(int kind, int from) {
        if (kind < 0 || kind > LawBook.REFUSAL || from < 0 || from >= DAYS) {
            return NONE;
        }
        return book.makeLaw(kind, from, today());
    }

    public int inForce(int kind, int day, int k) {
        if (kind < 0 || kind > LawBook.REFUSAL || !isDay(day) || !isDay(k)) {
            return NONE;
        }
        int law = book.lawInForce(kind, day, k);
        return law < 0 ? NONE_APART : law;
    }

    public int says(int law, int yards, int wait, int what, int bad) {
        int persons = what / 1000;
        int weekday = what / 100 % 10;
        int hour = what % 100;
        if (book.lawAt(law) == null || yards < 0 || yards > 99999 || wait < 0 || wait > WAITING) {
            return NO_VALUE;
        }
        if (what < 0 || persons > 9 || weekday > 6 || hour > 23 || bad < 0 || bad % 10 > 1) {
            return NO_VALUE;
        }
        book.tellRide(yards, timeOf(yards) + wait, wait);
        book.tellTime(bad % 10, weekday, hour);
        book.tellLoad(persons, bad / 10, Fleet.MOST_STRENGTH);
        return book.worthOf(law);
    }

    // ---- trips

    public int call(int from, int to, int what) {
        if (!isOrder(from, to, what)) {
            return NONE;
        }
        if (!draftTrip(from, to, what)) {
            return NO_WAY;
        }
        if (trips.kept.isFull()) {
            return FULL;
        }
        int stand = standAskedAfter(NONE);
        for (int asked = 0; asked < fleet.stands.rows && stand >= 0; asked++) {
            int coach = firstToCome(stand);
            if (coach >= 0) {
                return sendToCaller(coach);
            }
            stand = standAskedAfter(stand);
        }
        return STATE;
    }

    public int why(int coach, int from, int to, int what) {
        if (!fleet.isStanding(coach) || !isOrder(from, to, what)) {
            return NONE;
        }
        int stand = fleet.coaches.get(coach, Fleet.STAND);
        if (!draftTrip(from, to, what) || yardsToCaller(stand) < 0) {
            return NO_WAY;
        }
        return whyNot(coach, stand);
    }

    public int minutes(int n) {
        if (n < 1 || n > MINUTES_A_DAY || now + n >= MINUTES) {
            return NONE;
        }
        int until = now + n;
        // No coach sets out by itself, so each arrives once at most.
        for (int arrivals = 0; arrivals < fleet.coaches.rows; arrivals++) {
            int coach = fleet.nextToArrive(until);
            if (coach < 0) {
                break;
            }
            passTo(fleet.coaches.get(coach, Fleet.ARRIVAL));
            fleet.arrive(coach);
        }
        passTo(until);
        return now;
    }

    public int trip(int i, int what) {
        return trips.kept.isCell(i, what) ? trips.kept.get(i, what) : NONE_APART;
    }

    public int due(int trip, int k, int what) {
        if (!trips.kept.has(trip) || !isDay(k) || what < 0 || what > 1) {
            return NONE_APART;
        }
        int fare = fareDue(trip, k);
        if (fare < 0) {
            return NONE_APART;
        }
        return what == 0 ? fare : kindDue(trip, k);
    }

    public int refusal(int i, int what) {
        return trips.refusals.get(i, what);
    }

    // ---- complaints, things

    public int complain(int trip, int paid) {
        if (!trips.kept.has(trip) || paid < 0 || paid > MOST_PAID) {
            return NONE;
        }
        if (complaints.isOf(trip)) {
            return THERE;
        }
        return complaints.addComplaint(trip, paid);
    }

    public int judged(int i, int what) {
        if (!complaints.made.has(i)) {
            return NONE_APART;
        }
        switch (what) {
            case 0: return complaints.made.get(i, Complaints.TRIP);
            case 1: return complaints.made.get(i, Complaints.PAID);
            case 2: return overpaid(i);
            case 3: return likeCases(i, false);
            case 4: return latestLikeCase(i);
            case 5: return likeCases(i, true);
            default: return NONE_APART;
        }
    }

    public int lost(int sort, int plate, int from, int to) {
        if (sort < 0 || sort >= Things.SORTS || plate < 0 || plate >= Things.TOLD_PLATES) {
            return NONE;
        }
        if (!isMinute(from) || !isMinute(to) || from > to) {
            return NONE;
        }
        return things.addLost(sort, plate, from, to);
    }

    public int found(int sort, int coach) {
        if (sort < 0 || sort >= Things.SORTS || !fleet.coaches.has(coach)) {
            return NONE;
        }
        return things.addFound(sort, coach, now);
    }

    public int joined(int lost) {
        if (!things.losses.has(lost)) {
            return NONE;
        }
        int found = onlyFoundFor(lost);
        return found >= 0 && lossesFitting(found) == 1 ? found : NONE_APART;
    }

    public int fits(int lost) {
        if (!things.losses.has(lost)) {
            return NONE;
        }
        int fitting = 0;
        for (int found = 0; found < things.finds.rows; found++) {
            fitting += isFitting(lost, found) ? 1 : 0;
        }
        return fitting;
    }

    // ---- laws tried

    public int tried(int a, int b, int days) {
        int first = days / DAYS;
        int last = days % DAYS;
        if (a != -1 && !book.isOfKind(a, LawBook.BY_DISTANCE) || b != -1 && !book.isOfKind(b, LawBook.BY_TIME)) {
            return NONE;
        }
        if (days < 0 || first > last) {
            return NONE;
        }
        long together = 0;
        for (int trip = 0; trip < trips.kept.rows; trip++) {
            int day = dayOf(trip);
            if (day >= first && day <= last) {
                tellTrip(trips.kept, trip);
                together += Math.max(0, LawBook.lesserFare(book.fareBy(a), book.fareBy(b)));
            }
        }
        return (int) Math.min(together, MOST_TRIED);
    }

    public int count(int what) {
        switch (what) {
            case 0: return city.corners;
            case 1: return city.streets.rows;
            case 2: return fleet.coaches.rows;
            case 3: return fleet.stands.rows;
            case 4: return book.lawCount;
            case 5: return trips.kept.rows;
            case 6: return trips.refusals.rows;
            case 7: return complaints.made.rows;
            case 8: return now;
            case 9: return book.reader.length;
            case 10: return things.losses.rows;
            case 11: return things.finds.rows;
            case 12: return fleet.licences.rows;
            default: return NONE;
        }
    }

    // ---- minutes and days

    private static boolean isMinute(int minute) {
        return minute >= 0 && minute < MINUTES;
    }

    private static boolean isDay(int day) {
        return day >= 0 && day < DAYS;
    }

    private static int timeOf(int yards) {
        return (yards + YARDS_A_MINUTE - 1) / YARDS_A_MINUTE;
    }

    private int today() {
        return now / MINUTES_A_DAY;
    }

    private int thisYear() {
        return today() / DAYS_A_YEAR;
    }

    private int dayOf(int trip) {
        return trips.kept.get(trip, Trips.MINUTE) / MINUTES_A_DAY;
    }

    private void passTo(int until) {
        fleet.spend(until - now);
        now = until;
    }

    // ---- a call

    private static boolean isLoad(int persons, int waiting) {
        return persons >= 1 && persons <= PERSONS && waiting >= 0 && waiting <= WAITING;
    }

    private boolean isOrder(int from, int to, int what) {
        return city.isCorner(from) && city.isCorner(to) && from != to && isLoad(what / 1000, what % 1000);
    }

    /** Drafts what is asked for, and measures all ways to the caller; false if the trip has no way. */
    private boolean draftTrip(int from, int to, int what) {
        // A row of streets may be gone either way, so that the ways to the caller tell the trip's length, too.
        city.measure(from, now);
        int yards = city.yardsFrom(to);
        if (yards < 0) {
            return false;
        }
        trips.draft.set(0, Trips.FROM, from);
        trips.draft.set(0, Trips.TO, to);
        trips.draft.set(0, Trips.MINUTE, now);
        trips.draft.set(0, Trips.YARDS, yards);
        trips.draft.set(0, Trips.BAD, city.badFrom(to));
        trips.draft.set(0, Trips.PERSONS, what / 1000);
        trips.draft.set(0, Trips.WAITING, what % 1000);
        trips.draft.set(0, Trips.NIGHT, city.nightIn(now));
        return true;
    }

    private int yardsToCaller(int stand) {
        return city.yardsFrom(fleet.stands.get(stand, Fleet.PLACE));
    }

    /** The stand that is asked next after another one (NONE: the first of all), or NONE. */
    private int standAskedAfter(int last) {
        int next = NONE;
        for (int stand = 0; stand < fleet.stands.rows; stand++) {
            boolean isAsked = yardsToCaller(stand) >= 0 && (last < 0 || isAskedAfter(stand, last));
            if (isAsked && (next < 0 || isAskedAfter(next, stand))) {
                next = stand;
            }
        }
        return next;
    }

    private boolean isAskedAfter(int stand, int other) {
        int yards = yardsToCaller(stand);
        int otherYards = yardsToCaller(other);
        return yards > otherYards || yards == otherYards && stand > other;
    }

    /** The first coach in a stand's row that comes, or NONE; those that refuse are noted. */
    private int firstToCome(int stand) {
        for (int i = 0; i < fleet.rowLength(stand); i++) {
            int coach = fleet.coachInRow(stand, i);
            int reason = whyNot(coach, stand);
            if (reason == 0) {
                return coach;
            }
            if (reason == 4) {
                trips.noteRefusal();
            }
        }
        return NONE;
    }

    /** Why a coach of a stand would not come to the call that is drafted; 0: it would. */
    private int whyNot(int coach, int stand) {
        int strength = fleet.coaches.get(coach, Fleet.STRENGTH);
        trips.draftCoach(coach, stand, strength);
        int drives = trips.draftTimes(timeOf(yardsToCaller(stand)), timeOf(trips.draft.get(0, Trips.YARDS)));
        if (fleet.holderOf(coach, thisYear()) < 0) {
            return 1;
        }
        if (fleet.coaches.get(coach, Fleet.LOOKED) < today()) {
            return 2;
        }
        if (strength < 3 * drives + 20) {
            return 3;
        }
        tellTrip(trips.draft, 0);
        return book.worthOf(book.lawInForce(LawBook.REFUSAL, today(), today())) != 0 ? 4 : 0;
    }

    private int sendToCaller(int coach) {
        fleet.leaveRow(coach);
        int end = trips.draft.get(0, Trips.END);
        fleet.setOut(coach, Fleet.DRIVES, trips.draft.get(0, Trips.TO), NONE, end);
        return trips.keepDraft();
    }

    // ---- fares

    /** Tells the laws all names of a trip. */
    private void tellTrip(Table table, int trip) {
        int yards = table.get(trip, Trips.YARDS);
        int waiting = table.get(trip, Trips.WAITING);
        int called = table.get(trip, Trips.MINUTE);
        book.tellRide(yards, timeOf(yards) + waiting, waiting);
        book.tellTime(table.get(trip, Trips.NIGHT), called / MINUTES_A_DAY % DAYS_A_WEEK, called % MINUTES_A_DAY / 60);
        book.tellLoad(table.get(trip, Trips.PERSONS), table.get(trip, Trips.BAD), table.get(trip, Trips.STRENGTH));
    }

    /** The fare of a trip as known on a day; NONE without any. */
    private int fareDue(int trip, int known) {
        tellTrip(trips.kept, trip);
        int day = dayOf(trip);
        int byDistance = book.fareBy(book.lawInForce(LawBook.BY_DISTANCE, day, known));
        int byTime = book.fareBy(book.lawInForce(LawBook.BY_TIME, day, known));
        return LawBook.lesserFare(byDistance, byTime);
    }

    /** The kind of the law that gives the fare of a trip, if there is a fare. */
    private int kindDue(int trip, int known) {
        int fare = fareDue(trip, known);
        int byDistance = book.lawInForce(LawBook.BY_DISTANCE, dayOf(trip), known);
        return book.fareBy(byDistance) == fare ? LawBook.BY_DISTANCE : LawBook.BY_TIME;
    }

    private int earned(int coach) {
        int together = 0;
        for (int trip = 0; trip < trips.kept.rows; trip++) {
            if (trips.kept.get(trip, Trips.COACH) == coach) {
                together += Math.max(0, fareDue(trip, today()));
            }
        }
        return together;
    }

    // ---- complaints judged

    private int overpaid(int complaint) {
        int trip = complaints.made.get(complaint, Complaints.TRIP);
        int fare = fareDue(trip, dayOf(trip));
        return Math.max(0, complaints.made.get(complaint, Complaints.PAID) - Math.max(0, fare));
    }

    private boolean isLike(int complaint, int other) {
        int a = complaints.made.get(complaint, Complaints.TRIP);
        int b = complaints.made.get(other, Complaints.TRIP);
        return trips.isSame(a, b, Trips.NIGHT) && trips.isSame(a, b, Trips.PERSONS)
            && trips.kept.get(a, Trips.YARDS) / 1000 == trips.kept.get(b, Trips.YARDS) / 1000
            && dayOf(a) % DAYS_A_WEEK == dayOf(b) % DAYS_A_WEEK;
    }

    /** How many like cases a complaint has, or how many of these were judged over. */
    private int likeCases(int complaint, boolean onlyOver) {
        int like = 0;
        for (int other = 0; other < complaint; other++) {
            if (isLike(complaint, other) && (!onlyOver || overpaid(other) > 0)) {
                like++;
            }
        }
        return like;
    }

    private int latestLikeCase(int complaint) {
        for (int other = complaint - 1; other >= 0; other--) {
            if (isLike(complaint, other)) {
                return other;
            }
        }
        return NONE;
    }

    // ---- things joined

    private boolean isFitting(int lost, int found) {
        int from = things.losses.get(lost, Things.SPAN_FROM);
        int coach = things.finds.get(found, Things.COACH);
        return things.losses.get(lost, Things.SORT) == things.finds.get(found, Things.SORT)
            && things.finds.get(found, Things.MINUTE) >= from
            && Things.isPlate(things.losses.get(lost, Things.PLATE), fleet.coaches.get(coach, Fleet.PLATE))
            && trips.wasOnTrip(coach, from, things.losses.get(lost, Things.SPAN_TO));
    }

    /** The found thing that fits a lost one, if there is just one; else NONE. */
    private int onlyFoundFor(int lost) {
        int only = NONE;
        for (int found = 0; found < things.finds.rows; found++) {
            if (isFitting(lost, found)) {
                if (only >= 0) {
                    return NONE;
                }
                only = found;
            }
        }
        return only;
    }

    private int lossesFitting(int found) {
        int fitting = 0;
        for (int lost = 0; lost < things.losses.rows; lost++) {
            fitting += isFitting(lost, found) ? 1 : 0;
        }
        return fitting;
    }

    /** Rows of numbers up to a limit; a cell outside of them reads as NONE and takes nothing. */
    private static final class Table {
        private final int limit;
        private final int width;
        private final int[] cells;
        private int rows;

        private Table(int limit, int width) {
            this.limit = limit;
            this.width = width;
            this.cells = new int[limit * width];
        }

        private boolean has(int row) {
            return row >= 0 && row < rows;
        }

        private boolean isFull() {
            return rows >= limit;
        }

        private boolean isCell(int row, int column) {
            return has(row) && column >= 0 && column < width;
        }

        /** A new row: its number, or FULL. */
        private int add() {
            if (isFull()) {
                return FULL;
            }
            rows++;
            return rows - 1;
        }

        // get and set call nothing, since LANGUAGE.md bounds how deep calls go, and they stand at the bottom of most.
        private int get(int row, int column) {
            boolean isCell = row >= 0 && row < rows && column >= 0 && column < width;
            return isCell ? cells[row * width + column] : NONE;
        }

        private void set(int row, int column, int value) {
            if (row >= 0 && row < rows && column >= 0 && column < width) {
                cells[row * width + column] = value;
            }
        }
    }

    /** Corners, streets with the spans in which they are shut, the sun, and the ways. */
    private static final class City {
        private static final int CORNERS = 24;
        private static final int STREETS = 60;
        private static final int SPANS = 4;
        private static final int MONTHS = 12;

        // Columns of a street; behind the last one two for each span: from, to.
        private static final int END_A = 0;
        private static final int END_B = 1;
        private static final int COST = 2;
        private static final int OPEN = 3;
        private static final int SPAN_COUNT = 4;
        private static final int SPAN_FIRST = 5;

        // Yards weigh more than all bad streets that a way can have (fewer than there are corners).
        private static final int COST_OF_YARD = 100;
        private static final int NO_COST = 1000000000;

        private int corners;
        private final Table streets = new Table(STREETS, SPAN_FIRST + 2 * SPANS);
        private final int[] rise = new int[MONTHS];
        private final int[] set = new int[MONTHS];
        private final int[] costs = new int[CORNERS];
        private final int[] steps = new int[CORNERS];
        private int stepCount;

        private City() {
            for (int month = 0; month < MONTHS; month++) {
                tellSun(month, 360, 1080);
            }
        }

        private boolean isCorner(int corner) {
            return corner >= 0 && corner < corners;
        }

        private int addCorner() {
            if (corners >= CORNERS) {
                return FULL;
            }
            corners++;
            return corners - 1;
        }

        private int addStreet(int a, int b, int yards, int bad) {
            int street = streets.add();
            streets.set(street, END_A, a);
            streets.set(street, END_B, b);
            streets.set(street, COST, yards * COST_OF_YARD + bad);
            return street;
        }

        private int addSpan(int street, int from, int to) {
            int spans = streets.get(street, SPAN_COUNT);
            if (spans >= SPANS) {
                return FULL;
            }
            streets.set(street, SPAN_FIRST + 2 * spans, from);
            streets.set(street, SPAN_FIRST + 2 * spans + 1, to);
            streets.set(street, SPAN_COUNT, spans + 1);
            return spans + 1;
        }

        private void tellSun(int month, int riseMinute, int setMinute) {
            if (month >= 0 && month < MONTHS) {
                rise[month] = riseMinute;
                set[month] = setMinute;
            }
        }

        private int nightIn(int minute) {
            int month = Math.floorMod(minute / MINUTES_A_DAY / DAYS_A_MONTH, MONTHS);
            int place = minute % MINUTES_A_DAY;
            return place < rise[month] || place >= set[month] ? 1 : 0;
        }

        private boolean isShut(int street, int minute) {
            int spans = streets.get(street, SPAN_COUNT);
            for (int i = 0; i < spans; i++) {
                int from = streets.get(street, SPAN_FIRST + 2 * i);
                int to = streets.get(street, SPAN_FIRST + 2 * i + 1);
                if (minute >= from && minute < to) {
                    return true;
                }
            }
            return false;
        }

        /** Whether a street is open at the minute measured last. */
        private boolean isOpen(int street) {
            return streets.get(street, OPEN) == 1;
        }

        private int costFrom(int corner) {
            return isCorner(corner) ? costs[corner] : NO_COST;
        }

        /** Finds the cost of the way from each corner to a target at a minute. */
        private void measure(int target, int minute) {
            for (int street = 0; street < streets.rows; street++) {
                streets.set(street, OPEN, isShut(street, minute) ? 0 : 1);
            }
            for (int corner = 0; corner < CORNERS; corner++) {
                costs[corner] = corner == target ? 0 : NO_COST;
            }
            // The streets of a best way are fewer than the corners, and each round settles one more of them.
            boolean isLower = true;
            for (int round = 0; isLower && round < CORNERS; round++) {
                isLower = lowerAll();
            }
        }

        private boolean lowerAll() {
            boolean isLower = false;
            for (int street = 0; street < streets.rows; street++) {
                if (isOpen(street)) {
                    int a = streets.get(street, END_A);
                    int b = streets.get(street, END_B);
                    int cost = streets.get(street, COST);
                    isLower |= lower(a, costFrom(b) + cost);
                    isLower |= lower(b, costFrom(a) + cost);
                }
            }
            return isLower;
        }

        private boolean lower(int corner, int cost) {
            if (!isCorner(corner) || costs[corner] <= cost) {
                return false;
            }
            costs[corner] = cost;
            return true;
        }

        /** Yards of the way from a corner to the target measured last, or NO_WAY. */
        private int yardsFrom(int corner) {
            int cost = costFrom(corner);
            return cost < NO_COST ? cost / COST_OF_YARD : NO_WAY;
        }

        private int badFrom(int corner) {
            return costFrom(corner) % COST_OF_YARD;
        }

        /** Keeps the corners of the way from a corner to the target measured last. */
        private void keepSteps(int from, int target) {
            int at = from;
            stepCount = 0;
            for (int i = 0; i < CORNERS && at >= 0; i++) {
                steps[i] = at;
                stepCount = i + 1;
                at = at == target ? NONE : leastNext(at);
            }
        }

        /** The least corner next to another one to which a best way goes on. */
        private int leastNext(int at) {
            int least = NONE;
            for (int street = 0; street < streets.rows; street++) {
                int a = streets.get(street, END_A);
                int b = streets.get(street, END_B);
                int next = a == at ? b : a;
                boolean isOn = isOpen(street) && (a == at || b == at)
                    && costFrom(next) + streets.get(street, COST) == costFrom(at);
                if (isOn && (least < 0 || next < least)) {
                    least = next;
                }
            }
            return least;
        }

        private int stepAt(int i) {
            return i >= 0 && i < stepCount && i < CORNERS ? steps[i] : NONE;
        }
    }

    /** Coaches with what they do, licences, and stands with their rows. */
    private static final class Fleet {
        private static final int COACHES = 30;
        private static final int LICENCES = 200;
        private static final int STANDS_LIMIT = 12;
        private static final int MOST_PLACES = 10;
        private static final int MOST_STRENGTH = 1000;

        // What a coach does.
        private static final int RESTS = 0;
        private static final int STANDS = 1;
        private static final int GOES = 2;
        private static final int DRIVES = 3;
        private static final int WAITS = 4;

        // Columns of a coach.
        private static final int DOES = 0;
        private static final int CORNER = 1;
        private static final int STRENGTH = 2;
        private static final int ARRIVAL = 3;
        private static final int STAND = 4;
        private static final int LOOKED = 5;
        private static final int PLATE = 6;
        private static final int HOME = 7;

        // Columns of a licence.
        private static final int LICENSED = 0;
        private static final int YEAR = 1;
        private static final int HOLDER = 2;

        // Columns of a stand; behind the last one its row.
        private static final int PLACE = 0;
        private static final int PLACES = 1;
        private static final int TAKEN = 2;
        private static final int ROW = 3;

        private final Table coaches = new Table(COACHES, 8);
        private final Table licences = new Table(LICENCES, 3);
        private final Table stands = new Table(STANDS_LIMIT, ROW + MOST_PLACES);

        private boolean hasPlate(int plate) {
            for (int coach = 0; coach < coaches.rows; coach++) {
                if (coaches.get(coach, PLATE) == plate) {
                    return true;
                }
            }
            return false;
        }

        private int addCoach(int plate, int home) {
            int coach = coaches.add();
            coaches.set(coach, PLATE, plate);
            coaches.set(coach, HOME, home);
            coaches.set(coach, CORNER, home);
            coaches.set(coach, STRENGTH, MOST_STRENGTH);
            coaches.set(coach, LOOKED, NONE);
            settle(coach, RESTS, NONE);
            return coach;
        }

        private int holderOf(int coach, int year) {
            for (int i = 0; i < licences.rows; i++) {
                if (licences.get(i, LICENSED) == coach && licences.get(i, YEAR) == year) {
                    return licences.get(i, HOLDER);
                }
            }
            return NONE;
        }

        private int addLicence(int coach, int year, int holder) {
            int licence = licences.add();
            licences.set(licence, LICENSED, coach);
            licences.set(licence, YEAR, year);
            licences.set(licence, HOLDER, holder);
            return licence < 0 ? FULL : 1;
        }

        private int addStand(int corner, int places) {
            int stand = stands.add();
            stands.set(stand, PLACE, corner);
            stands.set(stand, PLACES, places);
            return stand;
        }

        private boolean isMoving(int coach) {
            int does = coaches.get(coach, DOES);
            return does == GOES || does == DRIVES;
        }

        private boolean isStanding(int coach) {
            return coaches.get(coach, DOES) == STANDS;
        }

        private boolean isStandingAt(int coach, int stand) {
            return isStanding(coach) && coaches.get(coach, STAND) == stand;
        }

        private int rowLength(int stand) {
            return stands.get(stand, TAKEN);
        }

        private int coachInRow(int stand, int i) {
            return i >= 0 && i < rowLength(stand) ? stands.get(stand, ROW + i) : NONE;
        }

        private void leaveRow(int coach) {
            if (!isStanding(coach)) {
                return;
            }
            int stand = coaches.get(coach, STAND);
            int length = rowLength(stand);
            int left = 0;
            for (int i = 0; i < length; i++) {
                int other = coachInRow(stand, i);
                if (other != coach) {
                    stands.set(stand, ROW + left, other);
                    left++;
                }
            }
            stands.set(stand, TAKEN, left);
        }

        private void setOut(int coach, int does, int corner, int stand, int arrival) {
            coaches.set(coach, DOES, does);
            coaches.set(coach, CORNER, corner);
            coaches.set(coach, STAND, stand);
            coaches.set(coach, ARRIVAL, arrival);
        }

        private void settle(int coach, int does, int stand) {
            coaches.set(coach, DOES, does);
            coaches.set(coach, STAND, stand);
            coaches.set(coach, ARRIVAL, NONE);
        }

        /** A coach that moves comes to where it is bound. */
        private void arrive(int coach) {
            int stand = coaches.get(coach, STAND);
            int length = rowLength(stand);
            if (coaches.get(coach, DOES) == DRIVES) {
                settle(coach, WAITS, NONE);
            } else if (stand < 0) {
                settle(coach, RESTS, NONE);
            } else if (length >= stands.get(stand, PLACES)) {
                settle(coach, WAITS, NONE);
            } else {
                stands.set(stand, ROW + length, coach);
                stands.set(stand, TAKEN, length + 1);
                settle(coach, STANDS, stand);
            }
        }

        /** The coach that arrives first, up to a minute; of several the least; NONE if none does. */
        private int nextToArrive(int until) {
            int next = NONE;
            int first = until + 1;
            for (int coach = 0; coach < coaches.rows; coach++) {
                int arrival = coaches.get(coach, ARRIVAL);
                if (isMoving(coach) && arrival < first) {
                    next = coach;
                    first = arrival;
                }
            }
            return next;
        }

        /** Minutes go by in which no coach arrives. */
        private void spend(int minutes) {
            for (int coach = 0; coach < coaches.rows; coach++) {
                int strength = coaches.get(coach, STRENGTH) + minutes * gainOf(coaches.get(coach, DOES));
                coaches.set(coach, STRENGTH, Math.max(0, Math.min(MOST_STRENGTH, strength)));
            }
        }

        private static int gainOf(int does) {
            switch (does) {
                case RESTS: return 2;
                case GOES: return -1;
                case DRIVES: return -3;
                default: return 0;
            }
        }
    }

    /** A law: when it was made and is in force, and its text as commands for a stack. */
    private static final class Law {
        // A command is its sign and this many times its operand; signs of the text stand for themselves.
        private static final int OPERAND = 256;
        private static final int NUMBER = '0';
        private static final int NAME = 'a';
        private static final int SKIP_IF_NOT = '?';
        private static final int SKIP = ':';

        private final int kind;
        private final int from;
        private final int made;
        private final int[] commands;

        private Law(int kind, int from, int made, int[] commands) {
            this.kind = kind;
            this.from = from;
            this.made = made;
            this.commands = commands;
        }

        /** What the law gives for the names; the stack has room for one number a command. */
        private int worth(int[] names, int[] stack) {
            int top = 0;
            for (int at = 0; at < commands.length; at++) {
                int sign = commands[at] % OPERAND;
                int operand = commands[at] / OPERAND;
                if (sign == NUMBER || sign == NAME) {
                    if (top >= stack.length) {
                        return 0;
                    }
                    stack[top] = sign == NUMBER ? operand : nameAt(names, operand);
                    top++;
                } else if (sign == SKIP) {
                    at = Math.max(at, operand - 1);
                } else if (top < 1 || top > stack.length) {
                    return 0;
                } else if (sign == SKIP_IF_NOT) {
                    top--;
                    at = stack[top] == 0 ? Math.max(at, operand - 1) : at;
                } else if (top < 2) {
                    return 0;
                } else {
                    top--;
                    stack[top - 1] = reckoned(sign, stack[top - 1], stack[top]);
                }
            }
            return top > 0 ? stack[top - 1] : 0;
        }

        private static int nameAt(int[] names, int i) {
            return i >= 0 && i < names.length ? names[i] : 0;
        }

        private static int reckoned(int sign, int a, int b) {
            switch (sign) {
                case '+': return a + b;
                case '-': return a - b;
                case '*': return a * b;
                case '/': return b == 0 ? 0 : a / b;
                case '%': return b == 0 ? 0 : a % b;
                case '<': return a < b ? 1 : 0;
                case '=': return a == b ? 1 : 0;
                case '>': return a > b ? 1 : 0;
                default: return 0;
            }
        }
    }

    /** The tape, read as the text of a law by the grammar's own letters; at a fault the reader stops in its place. */
    private static final class LawReader {
        private static final int TAPE = 160;
        private static final int MOST_OPEN = 12;
        private static final int MOST_DIGITS = 5;
        private static final int END = -1;

        private final int[] tape = new int[TAPE];
        // No byte leaves more than one command.
        private final int[] commands = new int[TAPE];
        private int length;
        private int place;
        private int commandCount;

        private int addBytes(int n, int lowestFirst) {
            if (n < 0 || length + n > TAPE) {
                return FULL;
            }
            for (int i = 0; i < n; i++) {
                tape[length + i] = lowestFirst >> 8 * i & 255;
            }
            length += n;
            return length;
        }

        private boolean isLaw() {
            place = 0;
            commandCount = 0;
            return readE(0) && place == length;
        }

        private int sign() {
            return place >= 0 && place < length && place < TAPE ? tape[place] : END;
        }

        /** A new command: its number; its operand may be told later. */
        private int put(int sign, int operand) {
            if (commandCount < commands.length) {
                commands[commandCount] = sign + Law.OPERAND * operand;
                commandCount++;
            }
            return commandCount - 1;
        }

        /** Lets a command skip up to the next one. */
        private void aimHere(int command) {
            if (command >= 0 && command < commands.length) {
                commands[command] += Law.OPERAND * commandCount;
            }
        }

        private boolean readE(int open) {
            if (!readC(open)) {
                return false;
            }
            if (sign() != '?') {
                return true;
            }
            if (open >= MOST_OPEN) {
                return false;
            }
            place++;
            int skipFirst = put(Law.SKIP_IF_NOT, 0);
            if (!readE(open + 1) || sign() != ':') {
                return false;
            }
            place++;
            int skipSecond = put(Law.SKIP, 0);
            aimHere(skipFirst);
            if (!readE(open + 1)) {
                return false;
            }
            aimHere(skipSecond);
            return true;
        }

        private boolean readC(int open) {
            if (!readS(open)) {
                return false;
            }
            int sign = sign();
            if (sign != '<' && sign != '=' && sign != '>') {
                return true;
            }
            place++;
            if (!readS(open)) {
                return false;
            }
            put(sign, 0);
            return true;
        }

        private boolean readS(int open) {
            if (!readP(open)) {
                return false;
            }
            int sign = sign();
            while (place < length && (sign == '+' || sign == '-')) {
                place++;
                if (!readP(open)) {
                    return false;
                }
                put(sign, 0);
                sign = sign();
            }
            return true;
        }

        private boolean readP(int open) {
            if (!readO(open)) {
                return false;
            }
            int sign = sign();
            while (place < length && (sign == '*' || sign == '/' || sign == '%')) {
                place++;
                if (!readO(open)) {
                    return false;
                }
                put(sign, 0);
                sign = sign();
            }
            return true;
        }

        private boolean readO(int open) {
            int sign = sign();
            if (isDigit(sign)) {
                return readNumber();
            }
            if (sign == '(') {
                return open < MOST_OPEN && readBraced(open + 1);
            }
            int name = LawBook.nameOf(sign);
            if (name < 0) {
                return false;
            }
            place++;
            put(Law.NAME, name);
            return true;
        }

        private boolean readBraced(int open) {
            place++;
            if (!readE(open) || sign() != ')') {
                return false;
            }
            place++;
            return true;
        }

        private static boolean isDigit(int sign) {
            return sign >= '0' && sign <= '9';
        }

        private boolean readNumber() {
            int number = 0;
            for (int digits = 0; digits < MOST_DIGITS && isDigit(sign()); digits++) {
                number = number * 10 + sign() - '0';
                place++;
            }
            put(Law.NUMBER, number);
            return !isDigit(sign());
        }
    }

    /** The laws, and the names as they were told last. */
    private static final class LawBook {
        private static final int LAWS = 40;
        private static final int BY_DISTANCE = 0;
        private static final int BY_TIME = 1;
        private static final int REFUSAL = 2;
        private static final int MOST_FARE = 1000000;
        private static final int FIRST_FAULT = -100;

        private static final String NAMES = "ytwndhpbs";

        private final LawReader reader = new LawReader();
        private final Law[] laws = new Law[LAWS];
        private int lawCount;
        private final int[] names = new int[9];
        private final int[] stack = new int[LawReader.TAPE];

        private static int nameOf(int sign) {
            for (int i = 0; i < NAMES.length(); i++) {
                if (NAMES.charAt(i) == sign) {
                    return i;
                }
            }
            return NONE;
        }

        private int makeLaw(int kind, int from, int made) {
            if (lawCount >= LAWS) {
                return FULL;
            }
            boolean isLaw = reader.isLaw();
            reader.length = 0;
            if (!isLaw) {
                return FIRST_FAULT - reader.place;
            }
            laws[lawCount] = new Law(kind, from, made, Arrays.copyOf(reader.commands, reader.commandCount));
            lawCount++;
            return lawCount - 1;
        }

        private Law lawAt(int law) {
            return law >= 0 && law < lawCount && law < LAWS ? laws[law] : null;
        }

        private boolean isOfKind(int law, int kind) {
            Law told = lawAt(law);
            return told != null && told.kind == kind;
        }

        /** The law of a kind in force on a day as known on another one, or NONE. */
        private int lawInForce(int kind, int day, int known) {
            for (int i = lawCount - 1; i >= 0; i--) {
                Law law = lawAt(i);
                if (law != null && law.kind == kind && law.made <= known && law.from <= day) {
                    return i;
                }
            }
            return NONE;
        }

        private void tellRide(int yards, int time, int waiting) {
            names[0] = yards;
            names[1] = time;
            names[2] = waiting;
        }

        private void tellTime(int night, int weekday, int hour) {
            names[3] = night;
            names[4] = weekday;
            names[5] = hour;
        }

        private void tellLoad(int persons, int bad, int strength) {
            names[6] = persons;
            names[7] = bad;
            names[8] = strength;
        }

        /** What a law gives for the names told last; 0 without a law. */
        private int worthOf(int law) {
            Law told = lawAt(law);
            return told == null ? 0 : told.worth(names, stack);
        }

        /** The fare by a law for the names told last; NONE without a law. */
        private int fareBy(int law) {
            Law told = lawAt(law);
            return told == null ? NONE : Math.max(0, Math.min(MOST_FARE, told.worth(names, stack)));
        }

        /** The lesser one of two fares, either of which may be missing. */
        private static int lesserFare(int a, int b) {
            return a < 0 || b < 0 ? Math.max(a, b) : Math.min(a, b);
        }
    }

    /** The trips that are kept, the refusals, and the draft of the trip that is called for. */
    private static final class Trips {
        private static final int TRIPS = 300;
        private static final int REFUSALS = 300;

        // Columns of a trip, in the order in which they are asked for.
        private static final int COACH = 0;
        private static final int FROM = 1;
        private static final int TO = 2;
        private static final int MINUTE = 3;
        private static final int MEETING = 4;
        private static final int END = 5;
        private static final int YARDS = 6;
        private static final int BAD = 7;
        private static final int PERSONS = 8;
        private static final int WAITING = 9;
        private static final int NIGHT = 10;
        private static final int STRENGTH = 11;
        private static final int STAND = 12;
        private static final int FACTS = 13;

        private final Table kept = new Table(TRIPS, FACTS);
        private final Table draft = new Table(1, FACTS);
        private final Table refusals = new Table(REFUSALS, 4);

        private Trips() {
            draft.add();
        }

        private void draftCoach(int coach, int stand, int strength) {
            draft.set(0, COACH, coach);
            draft.set(0, STAND, stand);
            draft.set(0, STRENGTH, strength);
        }

        /** Tells the draft when the caller gets in and when the trip ends: all minutes that the coach drives. */
        private int draftTimes(int toCaller, int toTarget) {
            int drives = toCaller + toTarget + draft.get(0, WAITING);
            draft.set(0, MEETING, draft.get(0, MINUTE) + toCaller);
            draft.set(0, END, draft.get(0, MINUTE) + drives);
            return drives;
        }

        private int keepDraft() {
            int trip = kept.add();
            for (int fact = 0; fact < FACTS; fact++) {
                kept.set(trip, fact, draft.get(0, fact));
            }
            return trip;
        }

        private void noteRefusal() {
            int refusal = refusals.add();
            refusals.set(refusal, 0, draft.get(0, COACH));
            refusals.set(refusal, 1, draft.get(0, MINUTE));
            refusals.set(refusal, 2, draft.get(0, FROM));
            refusals.set(refusal, 3, draft.get(0, TO));
        }

        private int tripsOf(int coach) {
            int trips = 0;
            for (int trip = 0; trip < kept.rows; trip++) {
                trips += kept.get(trip, COACH) == coach ? 1 : 0;
            }
            return trips;
        }

        private boolean isSame(int trip, int other, int fact) {
            return kept.get(trip, fact) == kept.get(other, fact);
        }

        /** Whether a coach was on a trip in a minute of a span, whose last minute is of it. */
        private boolean wasOnTrip(int coach, int from, int to) {
            for (int trip = 0; trip < kept.rows; trip++) {
                boolean isOfCoach = kept.get(trip, COACH) == coach;
                if (isOfCoach && kept.get(trip, MINUTE) <= to && kept.get(trip, END) > from) {
                    return true;
                }
            }
            return false;
        }
    }

    /** The complaints, one of a trip at most. */
    private static final class Complaints {
        private static final int TRIP = 0;
        private static final int PAID = 1;

        private final Table made = new Table(Trips.TRIPS, 2);

        private boolean isOf(int trip) {
            for (int i = 0; i < made.rows; i++) {
                if (made.get(i, TRIP) == trip) {
                    return true;
                }
            }
            return false;
        }

        private int addComplaint(int trip, int paid) {
            int complaint = made.add();
            made.set(complaint, TRIP, trip);
            made.set(complaint, PAID, paid);
            return complaint;
        }
    }

    /** Things lost and things found. */
    private static final class Things {
        private static final int LOST = 60;
        private static final int FOUND = 60;
        private static final int SORTS = 10;
        private static final int PLATE_DIGITS = 4;
        private static final int TOLD_DIGITS = 11;
        private static final int NOT_KNOWN = 10;
        private static final int TOLD_PLATES = TOLD_DIGITS * TOLD_DIGITS * TOLD_DIGITS * TOLD_DIGITS;

        // Columns: of both kinds the sort, of lost things the next three, of found things the last two.
        private static final int SORT = 0;
        private static final int PLATE = 1;
        private static final int SPAN_FROM = 2;
        private static final int SPAN_TO = 3;
        private static final int COACH = 1;
        private static final int MINUTE = 2;

        private final Table losses = new Table(LOST, 4);
        private final Table finds = new Table(FOUND, 3);

        private int addLost(int sort, int plate, int from, int to) {
            int lost = losses.add();
            losses.set(lost, SORT, sort);
            losses.set(lost, PLATE, plate);
            losses.set(lost, SPAN_FROM, from);
            losses.set(lost, SPAN_TO, to);
            return lost;
        }

        private int addFound(int sort, int coach, int minute) {
            int found = finds.add();
            finds.set(found, SORT, sort);
            finds.set(found, COACH, coach);
            finds.set(found, MINUTE, minute);
            return found;
        }

        /** Whether the known digits of a told plate are those of a plate. */
        private static boolean isPlate(int told, int plate) {
            int toldRest = told;
            int plateRest = plate;
            for (int i = 0; i < PLATE_DIGITS; i++) {
                int digit = toldRest % TOLD_DIGITS;
                if (digit != NOT_KNOWN && digit != plateRest % 10) {
                    return false;
                }
                toldRest /= TOLD_DIGITS;
                plateRest /= 10;
            }
            return true;
        }
    }
}
