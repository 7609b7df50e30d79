import java.util.ArrayList;
import java.util.List;
import java.util.TreeSet;

/**
 * A second PermitWeave, written from the document alone and in another way: it keeps what happened and finds
 * everything anew for each answer. ModelTest lets both answer the same calls.
 */
final class Model {
    private static final int NONE = -1;

    /** One, other, minutes. */
    private final List<int[]> lanes = new ArrayList<>();
    private final List<Bus> buses = new ArrayList<>();
    private final List<Application> applications = new ArrayList<>();
    private final int[] points = new int[6];
    /** The closed lanes in each hour that has passed. */
    private final List<TreeSet<Integer>> past = new ArrayList<>();

    private static final class Bus {
        int passengers;
        List<Integer> stops = new ArrayList<>();
    }

    private static final class Group {
        int lane;
        int from;
        int end;
    }

    private static final class Application {
        int applicant;
        int needs;
        boolean isUrgent;
        int state;
        int cause = NONE;
        Group group;
        long damage;
    }

    private static void bounds(boolean isRight) {
        if (!isRight) {
            throw new IndexOutOfBoundsException("model");
        }
    }

    private static void argument(boolean isRight) {
        if (!isRight) {
            throw new IllegalArgumentException("model");
        }
    }

    private static void state(boolean isRight) {
        if (!isRight) {
            throw new IllegalStateException("model");
        }
    }

    private static boolean isIn(int number, int count) {
        return 0 <= number && number < count;
    }

    private int now() {
        return past.size();
    }

    private TreeSet<Integer> closed(int spared) {
        TreeSet<Integer> closed = new TreeSet<>();
        for (int k = 0; k < applications.size(); k++) {
            if (applications.get(k).state == PermitWeave.OPEN && k != spared) {
                closed.add(applications.get(k).group.lane);
            }
        }
        return closed;
    }

    /** Lets each lane shorten the ways to its ends, until none does. */
    private int shortest(int from, int to, TreeSet<Integer> closed) {
        int[] best = new int[10];
        java.util.Arrays.fill(best, NONE);
        best[from] = 0;
        boolean isShorter = true;
        while (isShorter) {
            isShorter = false;
            for (int k = 0; k < lanes.size(); k++) {
                int[] lane = lanes.get(k);
                for (int side = 0; side < 2 && !closed.contains(k); side++) {
                    int start = best[lane[side]];
                    int goal = best[lane[1 - side]];
                    if (start != NONE && (goal == NONE || goal > start + lane[2])) {
                        best[lane[1 - side]] = start + lane[2];
                        isShorter = true;
                    }
                }
            }
        }
        return best[to];
    }

    private int extra(Bus bus, TreeSet<Integer> closed) {
        int with = 0;
        int without = 0;
        for (int k = 0; k + 1 < bus.stops.size(); k++) {
            int straight = shortest(bus.stops.get(k), bus.stops.get(k + 1), new TreeSet<>());
            int round = shortest(bus.stops.get(k), bus.stops.get(k + 1), closed);
            without += straight;
            with += round == NONE ? straight + 60 : round;
        }
        return with - without;
    }

    private boolean isShared(int permit) {
        for (int k = 0; k < applications.size(); k++) {
            if (k != permit && applications.get(k).state == PermitWeave.OPEN
                    && applications.get(k).group.lane == applications.get(permit).group.lane) {
                return true;
            }
        }
        return false;
    }

    private int cost(int permit, Bus bus) {
        if (isShared(permit)) {
            return 0;
        }
        TreeSet<Integer> others = closed(NONE);
        others.remove(applications.get(permit).group.lane);
        return extra(bus, closed(NONE)) - extra(bus, others);
    }

    private List<Integer> members(Group group) {
        List<Integer> members = new ArrayList<>();
        for (int k = 0; k < applications.size(); k++) {
            Application a = applications.get(k);
            if (a.group == group && a.state != PermitWeave.VOID && a.state != PermitWeave.REFUSED) {
                members.add(k);
            }
        }
        return members;
    }

    private List<Group> groups(int lane, int season) {
        List<Group> groups = new ArrayList<>();
        for (Application a : applications) {
            if (a.group.lane == lane && a.group.from / 500 == season && !members(a.group).isEmpty()
                    && !groups.contains(a.group)) {
                groups.add(a.group);
            }
        }
        return groups;
    }

    int lane(int one, int other, int minutes) {
        bounds(isIn(one, 10) && isIn(other, 10));
        argument(one != other && minutes >= 1 && minutes <= 30);
        state(lanes.size() < 24 && now() == 0);
        lanes.add(new int[] {one, other, minutes});
        return lanes.size() - 1;
    }

    int line(int first, int passengers) {
        bounds(isIn(first, 10));
        argument(passengers >= 0 && passengers <= 500);
        state(buses.size() < 6 && now() == 0);
        Bus bus = new Bus();
        bus.passengers = passengers;
        bus.stops.add(first);
        buses.add(bus);
        return buses.size() - 1;
    }

    int stop(int line, int junction) {
        bounds(isIn(line, buses.size()) && isIn(junction, 10));
        List<Integer> stops = buses.get(line).stops;
        int last = stops.get(stops.size() - 1);
        argument(last != junction);
        state(stops.size() < 6 && shortest(last, junction, new TreeSet<>()) != NONE && now() == 0);
        stops.add(junction);
        return stops.size();
    }

    int way(int from, int to) {
        bounds(isIn(from, 10) && isIn(to, 10));
        return shortest(from, to, closed(NONE));
    }

    boolean isClosed(int lane) {
        bounds(isIn(lane, lanes.size()));
        return closed(NONE).contains(lane);
    }

    int detour(int line) {
        bounds(isIn(line, buses.size()));
        return extra(buses.get(line), closed(NONE));
    }

    long minutes(int line) {
        bounds(isIn(line, buses.size()));
        long sum = 0;
        TreeSet<Integer> last = null;
        int detour = 0;
        for (TreeSet<Integer> closed : past) {
            if (!closed.equals(last)) {
                detour = extra(buses.get(line), closed);
                last = closed;
            }
            sum += (long) detour * buses.get(line).passengers;
        }
        return sum;
    }

    private Group met(int lane, int from, int hours, boolean isUrgent) {
        for (Application a : applications) {
            boolean counts = !a.isUrgent && a.state != PermitWeave.REFUSED && a.state != PermitWeave.VOID;
            for (int hour = from; counts && !isUrgent && a.group.lane == lane && hour < from + hours; hour++) {
                if (hour >= a.group.from && hour < a.group.end) {
                    return a.group;
                }
            }
        }
        return null;
    }

    private int cause(Application asked, Group met, Group stretched) {
        int from = asked.group.from;
        if (!asked.isUrgent && from < now() + 2 + 3 * points[asked.applicant]) {
            return PermitWeave.LATE;
        }
        if (asked.needs != NONE) {
            Application needed = applications.get(asked.needs);
            if (needed.state == PermitWeave.REFUSED || needed.state == PermitWeave.VOID || needed.group.end > from) {
                return PermitWeave.CHAIN;
            }
        }
        if (met != null && stretched.end - stretched.from > 40) {
            return PermitWeave.LONG;
        }
        List<Group> others = groups(asked.group.lane, stretched.from / 500);
        others.remove(met);
        return !asked.isUrgent && !others.isEmpty() ? PermitWeave.TWICE : NONE;
    }

    int apply(int applicant, int lane, int from, int hours, int needs, boolean isUrgent) {
        bounds(isIn(applicant, 6) && isIn(lane, lanes.size()) && (needs == NONE || isIn(needs, applications.size())));
        argument(from >= 0 && from <= 4900 && hours >= 1 && hours <= 40 && from >= now());
        state(applications.size() < 40);
        Application asked = new Application();
        asked.applicant = applicant;
        asked.needs = needs;
        asked.isUrgent = isUrgent;
        asked.group = new Group();
        asked.group.lane = lane;
        asked.group.from = from;
        asked.group.end = from + hours;
        Group met = met(lane, from, hours, isUrgent);
        Group stretched = new Group();
        stretched.from = met == null ? from : Math.min(from, met.from);
        stretched.end = met == null ? from + hours : Math.max(from + hours, met.end);
        asked.cause = cause(asked, met, stretched);
        asked.state = asked.cause == NONE ? PermitWeave.GRANTED : PermitWeave.REFUSED;
        if (asked.cause == NONE && met != null) {
            met.from = stretched.from;
            met.end = stretched.end;
            asked.group = met;
        }
        applications.add(asked);
        return applications.size() - 1;
    }

    int withdraw(int permit) {
        bounds(isIn(permit, applications.size()));
        state(applications.get(permit).state == PermitWeave.GRANTED);
        applications.get(permit).state = PermitWeave.VOID;
        int count = 1;
        for (int k = 0; k < applications.size(); k++) {
            if (applications.get(k).needs == permit && applications.get(k).state == PermitWeave.GRANTED) {
                count += withdraw(k);
            }
        }
        return count;
    }

    int begin(int permit) {
        bounds(isIn(permit, applications.size()));
        Application a = applications.get(permit);
        state(a.state == PermitWeave.GRANTED
                && (a.needs == NONE || applications.get(a.needs).state == PermitWeave.DONE));
        a.state = PermitWeave.OPEN;
        return a.group.from - now();
    }

    long finish(int permit) {
        bounds(isIn(permit, applications.size()));
        state(applications.get(permit).state == PermitWeave.OPEN);
        applications.get(permit).state = PermitWeave.DONE;
        return fine(permit);
    }

    int stateOf(int permit) {
        bounds(isIn(permit, applications.size()));
        return applications.get(permit).state;
    }

    int causeOf(int permit) {
        bounds(isIn(permit, applications.size()));
        return applications.get(permit).cause;
    }

    int from(int permit) {
        bounds(isIn(permit, applications.size()));
        return applications.get(permit).group.from;
    }

    int end(int permit) {
        bounds(isIn(permit, applications.size()));
        return applications.get(permit).group.end;
    }

    long together(int permit) {
        bounds(isIn(permit, applications.size()));
        long set = 0;
        for (int k : members(applications.get(permit).group)) {
            set += 1L << k;
        }
        return set;
    }

    int openings(int lane, int season) {
        bounds(isIn(lane, lanes.size()));
        argument(isIn(season, 11));
        return groups(lane, season).size();
    }

    int fee(int permit) {
        bounds(isIn(permit, applications.size()));
        Application a = applications.get(permit);
        List<Integer> members = members(a.group);
        if (!members.contains(permit)) {
            return 0;
        }
        int fee = 1000 + 100 * (a.group.end - a.group.from);
        int share = fee / members.size();
        return members.get(0) == permit ? fee - share * (members.size() - 1) : share;
    }

    int pass(int hours) {
        argument(hours >= 1 && hours <= 200);
        state(now() + hours <= 5000);
        long[] harm = new long[applications.size()];
        for (int k = 0; k < harm.length; k++) {
            for (Bus bus : buses) {
                harm[k] += applications.get(k).state == PermitWeave.OPEN ? (long) bus.passengers * cost(k, bus) : 0;
            }
        }
        for (int passed = 0; passed < hours; passed++) {
            for (int k = 0; k < harm.length; k++) {
                Application a = applications.get(k);
                if ((now() < a.group.from || now() >= a.group.end) && harm[k] > 0) {
                    a.damage += harm[k];
                    points[a.applicant]++;
                }
            }
            past.add(closed(NONE));
            for (int a = 0; a < 6 && now() % 100 == 0; a++) {
                points[a] = Math.max(0, points[a] - 1);
            }
        }
        return now();
    }

    int complain(int line) {
        bounds(isIn(line, buses.size()));
        TreeSet<Integer> blamed = new TreeSet<>();
        for (int k = 0; k < applications.size(); k++) {
            if (applications.get(k).state == PermitWeave.OPEN && cost(k, buses.get(line)) > 0) {
                blamed.add(applications.get(k).applicant);
            }
        }
        for (int applicant : blamed) {
            points[applicant]++;
        }
        return blamed.size();
    }

    int points(int applicant) {
        bounds(isIn(applicant, 6));
        return points[applicant];
    }

    long fine(int permit) {
        bounds(isIn(permit, applications.size()));
        return 2 * applications.get(permit).damage;
    }

    long fines(int applicant) {
        bounds(isIn(applicant, 6));
        long sum = 0;
        for (Application a : applications) {
            sum += a.applicant == applicant ? 2 * a.damage : 0;
        }
        return sum;
    }
}
