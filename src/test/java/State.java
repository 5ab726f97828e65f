import java.util.Arrays;

/** All that can be asked of an object, and what later calls show of it; the object is used up by it. */
final class State {
    private static final int DAY = 1440;
    private static final int LAST_MINUTE = 719999;

    private final HackneyStands x;
    private int[] facts = new int[20000];
    private int count;

    private State(HackneyStands x) {
        this.x = x;
    }

    static State of(HackneyStands x) {
        State state = new State(x);
        state.readCity();
        state.readFleet();
        state.readLaws();
        state.readTrips();
        state.readThings();
        state.tryOut();
        state.readFleet();
        state.readTrips();
        return state;
    }

    /** The first fact that is unlike in another state, or -1. */
    int firstUnlike(State other) {
        return Arrays.mismatch(facts, 0, count, other.facts, 0, other.count);
    }

    private void add(int fact) {
        if (count == facts.length) {
            facts = Arrays.copyOf(facts, 2 * count);
        }
        facts[count] = fact;
        count++;
    }

    private void readCity() {
        // The steps go first, since each way that is asked for tells others.
        for (int i = -1; i <= 24; i++) {
            add(x.step(i));
        }
        for (int what = 0; what <= 12; what++) {
            add(x.count(what));
        }
        int now = x.count(8);
        for (int minute : new int[] {now, now + 1, now + 10, now + 100, LAST_MINUTE}) {
            for (int a = 0; a < x.count(0); a++) {
                for (int b = 0; b <= a; b++) {
                    add(x.way(a, b, minute));
                }
            }
        }
        for (int month = 0; month < 12; month++) {
            for (int minute = 0; minute < DAY; minute++) {
                add(x.night(month * 30 * DAY + minute));
            }
        }
    }

    private void readFleet() {
        for (int coach = 0; coach < x.count(2); coach++) {
            for (int what = 0; what <= 8; what++) {
                add(x.about(coach, what));
            }
        }
        for (int stand = 0; stand < x.count(3); stand++) {
            for (int i = 0; i <= 10; i++) {
                add(x.turn(stand, i));
            }
        }
    }

    private void readLaws() {
        int today = x.count(8) / DAY;
        int[] days = {0, today, today + 1, 9999};
        for (int kind = 0; kind < 3; kind++) {
            for (int day : days) {
                for (int known : days) {
                    add(x.inForce(kind, day, known));
                }
            }
        }
        for (int law = 0; law < x.count(4); law++) {
            add(x.says(law, 1234, 17, 3523, 41));
            add(x.tried(law, -1, 9999));
            add(x.tried(-1, law, 9999));
        }
    }

    private void readTrips() {
        for (int trip = 0; trip < x.count(5); trip++) {
            for (int what = 0; what <= 12; what++) {
                add(x.trip(trip, what));
            }
            for (int what = 0; what <= 1; what++) {
                add(x.due(trip, 0, what));
                add(x.due(trip, x.count(8) / DAY, what));
                add(x.due(trip, 9999, what));
            }
        }
        for (int refusal = 0; refusal < x.count(6); refusal++) {
            for (int what = 0; what <= 3; what++) {
                add(x.refusal(refusal, what));
            }
        }
    }

    private void readThings() {
        for (int complaint = 0; complaint < x.count(7); complaint++) {
            for (int what = 0; what <= 5; what++) {
                add(x.judged(complaint, what));
            }
        }
        for (int lost = 0; lost < x.count(10); lost++) {
            add(x.fits(lost));
            add(x.joined(lost));
        }
    }

    /** What shows by the answers of calls alone: the tape, licences, plates, spans, homes, and what comes with time. */
    private void tryOut() {
        add(x.law(0, 0));
        add(x.says(x.count(4) - 1, 1234, 17, 3523, 41));
        for (int coach = 0; coach < x.count(2); coach++) {
            for (int year : new int[] {0, 1, 2, 199, 200, 1999}) {
                add(x.licence(coach, year, 0));
            }
        }
        for (int plate = 1; plate < 100; plate++) {
            add(x.coach(plate, 0));
            add(x.coach(10000 - plate, 0));
        }
        for (int street = 0; street < x.count(1); street++) {
            add(x.shut(street, LAST_MINUTE, LAST_MINUTE + 1));
        }
        add(x.minutes(DAY));
        for (int coach = 0; coach < x.count(2); coach++) {
            add(x.go(coach, -1));
        }
        for (int sort = 0; sort < 10; sort++) {
            add(x.lost(sort, 14640, 0, LAST_MINUTE));
            add(x.fits(x.count(10) - 1));
        }
    }
}
