import java.util.ArrayList;

/** A permit office, its road works and its bus network, as the document promises them. */
public final class PermitWeave {
    public static final int NONE = -1;
    public static final int GRANTED = 0, REFUSED = 1, OPEN = 2, DONE = 3, VOID = 4;
    public static final int LATE = 0, CHAIN = 1, LONG = 2, TWICE = 3;

    private static final int JUNCTIONS = 10;
    private static final int MOST_LANES = 24;
    private static final int MOST_LANE_MINUTES = 30;
    private static final int MOST_LINES = 6;
    private static final int MOST_STOPS = 6;
    private static final int MOST_PASSENGERS = 500;
    private static final int BLOCKED_LEG_MINUTES = 60;

    private static final int APPLICANTS = 6;
    private static final int MOST_PERMITS = 40;
    private static final int LAST_FROM = 4900;
    private static final int MOST_PERMIT_HOURS = 40;
    private static final int MOST_OPENING_HOURS = 40;
    private static final int NOTICE = 2;
    private static final int NOTICE_OF_A_POINT = 3;
    private static final int FEE_OF_AN_OPENING = 1000;
    private static final int FEE_OF_AN_HOUR = 100;
    private static final int FINE_OF_A_MINUTE = 2;

    private static final int LAST_HOUR = 5000;
    private static final int MOST_PASSED_HOURS = 200;
    private static final int SEASON_HOURS = 500;
    private static final int LAST_SEASON = 10;
    private static final int FORGIVING_HOURS = 100;

    private final Roads roads = new Roads();
    private final ArrayList<Line> lines = new ArrayList<>();
    private final ArrayList<Permit> permits = new ArrayList<>();
    private final ArrayList<Opening> allOpenings = new ArrayList<>();
    private final int[] points = new int[APPLICANTS];
    private int now;

    public PermitWeave() {
    }

    // ---- lanes and lines

    public int lane(int one, int other, int minutes)
            throws IndexOutOfBoundsException, IllegalArgumentException, IllegalStateException {
        checkJunction(one);
        checkJunction(other);
        if (one == other || minutes < 1 || minutes > MOST_LANE_MINUTES) {
            throw new IllegalArgumentException("a lane joins two junctions in 1 to 30 minutes");
        }
        if (roads.count == MOST_LANES || now != 0) {
            throw new IllegalStateException("lanes are added at the hour 0, at most 24");
        }
        return roads.join(one, other, minutes);
    }

    public int line(int first, int passengers)
            throws IndexOutOfBoundsException, IllegalArgumentException, IllegalStateException {
        checkJunction(first);
        if (passengers < 0 || passengers > MOST_PASSENGERS) {
            throw new IllegalArgumentException("a line carries 0 to 500 passengers");
        }
        if (lines.size() == MOST_LINES || now != 0) {
            throw new IllegalStateException("lines are added at the hour 0, at most 6");
        }
        lines.add(new Line(first, passengers));
        return lines.size() - 1;
    }

    public int stop(int line, int junction)
            throws IndexOutOfBoundsException, IllegalArgumentException, IllegalStateException {
        Line longer = lineOf(line);
        checkJunction(junction);
        if (junction == longer.lastStop()) {
            throw new IllegalArgumentException("it is the last stop already");
        }
        if (longer.count == MOST_STOPS || now != 0 || roads.freeWay(longer.lastStop(), junction) == NONE) {
            throw new IllegalStateException("stops are set at the hour 0, at most 6, where a way leads");
        }
        return longer.extend(junction);
    }

    public int way(int from, int to) throws IndexOutOfBoundsException {
        checkJunction(from);
        checkJunction(to);
        return roads.wayRound(from, to, closedNow());
    }

    public boolean isClosed(int lane) throws IndexOutOfBoundsException {
        checkLane(lane);
        return (closedNow() & (1 << lane)) != 0;
    }

    public int detour(int line) throws IndexOutOfBoundsException {
        return lineOf(line).extraMinutes(roads, closedNow());
    }

    public long minutes(int line) throws IndexOutOfBoundsException {
        return lineOf(line).counted;
    }

    public long minutesAnew(int line) throws IndexOutOfBoundsException {
        Line asked = lineOf(line);
        long sum = 0;
        int hour = 0;
        // The hours from one begin or finish to the next are alike, and each permit has one of both at most.
        for (int span = 0; span <= 2 * MOST_PERMITS && hour < now; span++) {
            int next = nextChange(hour);
            sum += (long) (next - hour) * asked.extraMinutes(roads, closedDuring(hour));
            hour = next;
        }
        return sum * asked.passengers;
    }

    // ---- permits

    public int apply(int applicant, int lane, int from, int hours, int needs, boolean isUrgent)
            throws IndexOutOfBoundsException, IllegalArgumentException, IllegalStateException {
        checkApplicant(applicant);
        checkLane(lane);
        Permit needed = needs == NONE ? null : permitOf(needs);
        if (from < 0 || from > LAST_FROM || hours < 1 || hours > MOST_PERMIT_HOURS || from < now) {
            throw new IllegalArgumentException("a permit is for 1 to 40 hours, from now on, up to 4900");
        }
        if (permits.size() == MOST_PERMITS) {
            throw new IllegalStateException("there are 40 permits");
        }
        Permit permit = new Permit(permits.size(), applicant, lane, from, from + hours, needed, isUrgent);
        decide(permit);
        permits.add(permit);
        return permit.number;
    }

    public int withdraw(int permit) throws IndexOutOfBoundsException, IllegalStateException {
        Permit first = permitOf(permit);
        if (first.state != GRANTED) {
            throw new IllegalStateException("it is not GRANTED");
        }
        first.cancel();
        int cancelled = 1;
        // A permit can only need a lower one, so one walk upwards meets the whole chain.
        for (int k = permit + 1; k < permits.size(); k++) {
            Permit later = permits.get(k);
            if (later.state == GRANTED && later.needed != null && later.needed.state == VOID) {
                later.cancel();
                cancelled++;
            }
        }
        return cancelled;
    }

    public int begin(int permit) throws IndexOutOfBoundsException, IllegalStateException {
        Permit begun = permitOf(permit);
        if (begun.state != GRANTED || (begun.needed != null && begun.needed.state != DONE)) {
            throw new IllegalStateException("it is not GRANTED, or the one that it needs is not DONE");
        }
        begun.state = OPEN;
        begun.begunAt = now;
        return begun.firstHour() - now;
    }

    public long finish(int permit) throws IndexOutOfBoundsException, IllegalStateException {
        Permit finished = permitOf(permit);
        if (finished.state != OPEN) {
            throw new IllegalStateException("it is not OPEN");
        }
        finished.state = DONE;
        finished.finishedAt = now;
        return finished.fineSoFar();
    }

    public int state(int permit) throws IndexOutOfBoundsException {
        return permitOf(permit).state;
    }

    public int cause(int permit) throws IndexOutOfBoundsException {
        return permitOf(permit).cause;
    }

    public int from(int permit) throws IndexOutOfBoundsException {
        return permitOf(permit).firstHour();
    }

    public int end(int permit) throws IndexOutOfBoundsException {
        return permitOf(permit).endHour();
    }

    public long together(int permit) throws IndexOutOfBoundsException {
        Opening opening = permitOf(permit).opening;
        return opening == null ? 0 : opening.members;
    }

    public int openings(int lane, int season) throws IndexOutOfBoundsException, IllegalArgumentException {
        checkLane(lane);
        if (season < 0 || season > LAST_SEASON) {
            throw new IllegalArgumentException("seasons are 0 to 10");
        }
        return openingsBeside(null, lane, season);
    }

    public int fee(int permit) throws IndexOutOfBoundsException {
        Permit asked = permitOf(permit);
        if (asked.opening == null || asked.state == VOID) {
            return 0;
        }
        return asked.opening.shareOf(asked.number);
    }

    // ---- hours, complaints and fines

    public int pass(int hours) throws IllegalArgumentException, IllegalStateException {
        if (hours < 1 || hours > MOST_PASSED_HOURS) {
            throw new IllegalArgumentException("1 to 200 hours pass");
        }
        if (now + hours > LAST_HOUR) {
            throw new IllegalStateException("now would be above 5000");
        }
        // No dig begins or ends while hours pass, so they are all weighed alike.
        int closed = closedNow();
        countMinutes(closed, hours);
        weighDigs(closed);
        for (int hour = 0; hour < hours; hour++) {
            passHour();
        }
        return now;
    }

    public int complain(int line) throws IndexOutOfBoundsException {
        Line hurt = lineOf(line);
        int detourNow = hurt.extraMinutes(roads, closedNow());
        int blamed = 0;
        for (int k = 0; k < permits.size(); k++) {
            Permit permit = permits.get(k);
            if (permit.state == OPEN && detourNow > hurt.extraMinutes(roads, closedBut(permit))) {
                blamed |= 1 << permit.applicant;
            }
        }
        for (int applicant = 0; applicant < APPLICANTS; applicant++) {
            points[applicant] += (blamed >> applicant) & 1;
        }
        return Integer.bitCount(blamed);
    }

    public int points(int applicant) throws IndexOutOfBoundsException {
        checkApplicant(applicant);
        return points[applicant];
    }

    public long fine(int permit) throws IndexOutOfBoundsException {
        return permitOf(permit).fineSoFar();
    }

    public long fines(int applicant) throws IndexOutOfBoundsException {
        checkApplicant(applicant);
        long sum = 0;
        for (int k = 0; k < permits.size(); k++) {
            Permit permit = permits.get(k);
            if (permit.applicant == applicant) {
                sum += permit.fineSoFar();
            }
        }
        return sum;
    }

    // ---- what the calls ask first

    private static void checkJunction(int junction) {
        if (junction < 0 || junction >= JUNCTIONS) {
            throw new IndexOutOfBoundsException("there is no such junction");
        }
    }

    private static void checkApplicant(int applicant) {
        if (applicant < 0 || applicant >= APPLICANTS) {
            throw new IndexOutOfBoundsException("there is no such applicant");
        }
    }

    private void checkLane(int lane) {
        if (lane < 0 || lane >= roads.count) {
            throw new IndexOutOfBoundsException("there is no such lane");
        }
    }

    private Line lineOf(int line) {
        if (line < 0 || line >= lines.size()) {
            throw new IndexOutOfBoundsException("there is no such line");
        }
        return lines.get(line);
    }

    private Permit permitOf(int permit) {
        if (permit < 0 || permit >= permits.size()) {
            throw new IndexOutOfBoundsException("there is no such permit");
        }
        return permits.get(permit);
    }

    // ---- closed lanes, as sets: bit k for the lane k

    private int closedNow() {
        return closedBut(null);
    }

    /** Leaves out what one dig alone keeps closed: where another dig is on its lane, that stays closed. */
    private int closedBut(Permit spared) {
        int closed = 0;
        for (int k = 0; k < permits.size(); k++) {
            Permit permit = permits.get(k);
            if (permit.state == OPEN && permit != spared) {
                closed |= 1 << permit.lane;
            }
        }
        return closed;
    }

    private int closedDuring(int hour) {
        int closed = 0;
        for (int k = 0; k < permits.size(); k++) {
            Permit permit = permits.get(k);
            if (permit.wasOpenDuring(hour)) {
                closed |= 1 << permit.lane;
            }
        }
        return closed;
    }

    /** The first hour behind the given one at which a permit was begun or finished, or now. */
    private int nextChange(int hour) {
        int next = now;
        for (int k = 0; k < permits.size(); k++) {
            Permit permit = permits.get(k);
            if (permit.begunAt > hour) {
                next = Math.min(next, permit.begunAt);
            }
            if (permit.finishedAt > hour) {
                next = Math.min(next, permit.finishedAt);
            }
        }
        return next;
    }

    // ---- how an application is decided

    private void decide(Permit permit) {
        Opening met = openingMetBy(permit);
        permit.cause = causeAgainst(permit, met);
        if (permit.cause != NONE) {
            permit.state = REFUSED;
            return;
        }
        Opening opening = met;
        if (opening == null) {
            opening = new Opening(permit.lane, permit.appliedFrom, permit.appliedEnd);
            allOpenings.add(opening);
        }
        opening.admit(permit);
        permit.opening = opening;
    }

    /** The opening with which a permit would be put together; null if there is none. */
    private Opening openingMetBy(Permit permit) {
        if (permit.isUrgent) {
            return null;
        }
        for (int k = 0; k < permits.size(); k++) {
            Permit other = permits.get(k);
            if (other.lane == permit.lane && !other.isUrgent && other.state != VOID
                    && other.opening != null && other.opening.meets(permit)) {
                return other.opening;
            }
        }
        return null;
    }

    private int causeAgainst(Permit permit, Opening met) {
        if (isLate(permit)) {
            return LATE;
        }
        if (breaksChain(permit)) {
            return CHAIN;
        }
        if (met != null && met.hoursWith(permit) > MOST_OPENING_HOURS) {
            return LONG;
        }
        return isTwice(permit, met) ? TWICE : NONE;
    }

    private boolean isLate(Permit permit) {
        int notice = NOTICE + NOTICE_OF_A_POINT * points[permit.applicant];
        return !permit.isUrgent && permit.appliedFrom < now + notice;
    }

    private static boolean breaksChain(Permit permit) {
        Permit needed = permit.needed;
        return needed != null
                && (needed.state == REFUSED || needed.state == VOID || needed.endHour() > permit.appliedFrom);
    }

    private boolean isTwice(Permit permit, Opening met) {
        int first = met == null ? permit.appliedFrom : met.firstWith(permit);
        return !permit.isUrgent && openingsBeside(met, permit.lane, first / SEASON_HOURS) > 0;
    }

    private int openingsBeside(Opening spared, int lane, int season) {
        int count = 0;
        for (int k = 0; k < allOpenings.size(); k++) {
            Opening opening = allOpenings.get(k);
            if (opening != spared && opening.lane == lane && opening.isThere()
                    && opening.first / SEASON_HOURS == season) {
                count++;
            }
        }
        return count;
    }

    // ---- how hours pass

    private void countMinutes(int closed, int hours) {
        for (int k = 0; k < lines.size(); k++) {
            Line line = lines.get(k);
            line.counted += (long) hours * line.passengers * line.extraMinutes(roads, closed);
        }
    }

    private void weighDigs(int closed) {
        long load = loadOf(closed);
        for (int k = 0; k < permits.size(); k++) {
            Permit permit = permits.get(k);
            if (permit.state == OPEN) {
                permit.hourlyCost = load - loadOf(closedBut(permit));
            }
        }
    }

    /** The passengers' minutes of all lines in an hour in which these lanes are closed. */
    private long loadOf(int closed) {
        long load = 0;
        for (int k = 0; k < lines.size(); k++) {
            Line line = lines.get(k);
            load += (long) line.passengers * line.extraMinutes(roads, closed);
        }
        return load;
    }

    private void passHour() {
        for (int k = 0; k < permits.size(); k++) {
            Permit permit = permits.get(k);
            if (permit.state == OPEN && permit.isBeside(now) && permit.hourlyCost > 0) {
                permit.damage += permit.hourlyCost;
                points[permit.applicant]++;
            }
        }
        now++;
        if (now % FORGIVING_HOURS == 0) {
            forgive();
        }
    }

    private void forgive() {
        for (int applicant = 0; applicant < APPLICANTS; applicant++) {
            if (points[applicant] > 0) {
                points[applicant]--;
            }
        }
    }

    /** The lanes, and the shortest ways over them. */
    private static final class Roads {
        private final int[] ones = new int[MOST_LANES];
        private final int[] others = new int[MOST_LANES];
        private final int[] laneMinutes = new int[MOST_LANES];
        private int count;
        private final Ways free = new Ways();
        private final Ways round = new Ways();

        /** To be called while there are fewer than MOST_LANES. */
        int join(int one, int other, int minutes) {
            if (count < MOST_LANES) {
                ones[count] = one;
                others[count] = other;
                laneMinutes[count] = minutes;
                count++;
            }
            return count - 1;
        }

        int freeWay(int one, int other) {
            free.find(this, 0);
            return free.between(one, other);
        }

        int wayRound(int one, int other, int closed) {
            round.find(this, closed);
            return round.between(one, other);
        }
    }

    /** The minutes of the shortest ways between all junctions, for one set of closed lanes. */
    private static final class Ways {
        /** No way is as far as this. */
        private static final int FAR = 1000000;

        private final int[][] shortest = new int[JUNCTIONS][JUNCTIONS];
        private int foundLanes = NONE;
        private int foundClosed;

        void find(Roads roads, int closed) {
            // Most calls ask for the ways of the same lanes again, and finding them is the dearest thing here.
            if (foundLanes == roads.count && foundClosed == closed) {
                return;
            }
            foundLanes = roads.count;
            foundClosed = closed;
            takeLanes(roads, closed);
            for (int middle = 0; middle < JUNCTIONS; middle++) {
                leadOver(middle);
            }
        }

        private void takeLanes(Roads roads, int closed) {
            for (int one = 0; one < JUNCTIONS; one++) {
                for (int other = 0; other < JUNCTIONS; other++) {
                    shortest[one][other] = one == other ? 0 : FAR;
                }
            }
            for (int lane = 0; lane < roads.count; lane++) {
                int one = roads.ones[lane];
                int other = roads.others[lane];
                if ((closed & (1 << lane)) == 0 && roads.laneMinutes[lane] < shortest[one][other]) {
                    shortest[one][other] = roads.laneMinutes[lane];
                    shortest[other][one] = roads.laneMinutes[lane];
                }
            }
        }

        private void leadOver(int middle) {
            for (int one = 0; one < JUNCTIONS; one++) {
                int first = shortest[one][middle];
                if (first == FAR) {
                    continue;
                }
                for (int other = 0; other < JUNCTIONS; other++) {
                    int both = first + shortest[middle][other];
                    if (both < shortest[one][other]) {
                        shortest[one][other] = both;
                    }
                }
            }
        }

        int between(int one, int other) {
            return shortest[one][other] < FAR ? shortest[one][other] : NONE;
        }
    }

    /** A bus line: its stops in a row, its passengers in an hour, and their minutes so far. */
    private static final class Line {
        private final int[] stops = new int[MOST_STOPS];
        private int count = 1;
        private final int passengers;
        private long counted;

        Line(int first, int passengers) {
            stops[0] = first;
            this.passengers = passengers;
        }

        int lastStop() {
            return stops[count - 1];
        }

        /** To be called while there are fewer than MOST_STOPS. */
        int extend(int junction) {
            if (count < MOST_STOPS) {
                stops[count] = junction;
                count++;
            }
            return count;
        }

        /** What its legs take more, all together, than if no lane was closed. */
        int extraMinutes(Roads roads, int closed) {
            int sum = 0;
            for (int leg = 1; leg < count; leg++) {
                int round = roads.wayRound(stops[leg - 1], stops[leg], closed);
                sum += round == NONE ? BLOCKED_LEG_MINUTES : round - roads.freeWay(stops[leg - 1], stops[leg]);
            }
            return sum;
        }
    }

    /** Hours for which a lane is opened, and the permits that are put together in them. */
    private static final class Opening {
        private final int lane;
        private int first;
        private int end;
        /** Bit k for the permit k; those that are VOID are taken out. */
        private long members;

        Opening(int lane, int first, int end) {
            this.lane = lane;
            this.first = first;
            this.end = end;
        }

        boolean isThere() {
            return members != 0;
        }

        boolean meets(Permit permit) {
            return permit.appliedFrom < end && first < permit.appliedEnd;
        }

        int firstWith(Permit permit) {
            return Math.min(first, permit.appliedFrom);
        }

        int endWith(Permit permit) {
            return Math.max(end, permit.appliedEnd);
        }

        int hoursWith(Permit permit) {
            return endWith(permit) - firstWith(permit);
        }

        void admit(Permit permit) {
            first = firstWith(permit);
            end = endWith(permit);
            members |= 1L << permit.number;
        }

        void release(Permit permit) {
            members &= ~(1L << permit.number);
        }

        int shareOf(int number) {
            int sharers = Long.bitCount(members);
            if (sharers == 0) {
                return 0;
            }
            int due = FEE_OF_AN_OPENING + FEE_OF_AN_HOUR * (end - first);
            boolean isLowest = (members & -members) == 1L << number;
            return due / sharers + (isLowest ? due % sharers : 0);
        }
    }

    /** An application and what became of it. */
    private static final class Permit {
        private final int number;
        private final int applicant;
        private final int lane;
        private final int appliedFrom;
        private final int appliedEnd;
        /** Null if it needs none. */
        private final Permit needed;
        private final boolean isUrgent;
        private int state = GRANTED;
        private int cause = NONE;
        /** Null if it is REFUSED. */
        private Opening opening;
        private int begunAt = NONE;
        private int finishedAt = NONE;
        private long damage;
        /** What it costs all lines in an hour, each times its passengers; found when hours are to pass. */
        private long hourlyCost;

        Permit(int number, int applicant, int lane, int appliedFrom, int appliedEnd, Permit needed,
                boolean isUrgent) {
            this.number = number;
            this.applicant = applicant;
            this.lane = lane;
            this.appliedFrom = appliedFrom;
            this.appliedEnd = appliedEnd;
            this.needed = needed;
            this.isUrgent = isUrgent;
        }

        int firstHour() {
            return opening == null ? appliedFrom : opening.first;
        }

        int endHour() {
            return opening == null ? appliedEnd : opening.end;
        }

        boolean isBeside(int hour) {
            return hour < firstHour() || hour >= endHour();
        }

        boolean wasOpenDuring(int hour) {
            return begunAt != NONE && begunAt <= hour && (finishedAt == NONE || hour < finishedAt);
        }

        void cancel() {
            state = VOID;
            if (opening != null) {
                opening.release(this);
            }
        }

        long fineSoFar() {
            return FINE_OF_A_MINUTE * damage;
        }
    }
}
