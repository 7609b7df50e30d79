import java.util.ArrayList;
import java.util.List;
import java.util.Random;
import java.util.function.LongSupplier;

/** Runs of 512 calls, right and wrong ones, that a PermitWeave and the Model must answer alike. */
public final class ModelTest {
    private static final int RUNS = 500;
    /** What later calls answer is free. */
    private static final int CALLS = 512;
    private static final Due due = new Due("ModelTest");

    private final Random random;
    private final PermitWeave x = new PermitWeave();
    private final Model model = new Model();
    private final String name;
    /** So many calls build the town; the others follow. */
    private final int building;
    private final int step;
    private final int wrongOf;
    private final int span;
    private int calls;
    private int lanes;
    private int lines;
    private final List<Integer> lanesOfPermits = new ArrayList<>();
    private int permits;
    private int now;

    private ModelTest(int seed) {
        random = new Random(seed);
        name = "run " + seed;
        building = 20 + random.nextInt(60);
        step = 1 + random.nextInt(seed % 3 == 0 ? 200 : 12);
        wrongOf = 10 + random.nextInt(60);
        span = seed % 2 == 0 ? 60 : 700;
    }

    /** One below count mostly, or a wrong one. */
    private int number(int count) {
        int[] wrong = {-1, count, -2, Integer.MIN_VALUE, Integer.MAX_VALUE};
        if (count == 0 || random.nextInt(wrongOf) == 0) {
            return wrong[random.nextInt(wrong.length)];
        }
        return random.nextInt(count);
    }

    private int within(int least, int most) {
        return least + number(most - least + 1);
    }

    /** The model throws from its own lines, which Due takes for the machine's. */
    private static String modelAnswer(LongSupplier call) {
        return Due.answer(call).replace("the machine's ", "");
    }

    private boolean both(String call, LongSupplier asked, LongSupplier wanted) {
        if (calls == CALLS) {
            return false;
        }
        calls++;
        String got = Due.answer(asked);
        due.is(name + " at " + now + ": " + call, got, modelAnswer(wanted));
        return !got.endsWith("Exception");
    }

    private void build() {
        int one = number(10);
        int other = number(10);
        int size = within(0, 30);
        int line = number(lines);
        switch (random.nextInt(5)) {
            case 0, 1:
                lanes += both("lane(" + one + ", " + other + ", " + size + ")",
                        () -> x.lane(one, other, size), () -> model.lane(one, other, size)) ? 1 : 0;
                break;
            case 2:
                int passengers = within(0, 500);
                lines += both("line(" + one + ", " + passengers + ")",
                        () -> x.line(one, passengers), () -> model.line(one, passengers)) ? 1 : 0;
                break;
            default:
                both("stop(" + line + ", " + one + ")", () -> x.stop(line, one), () -> model.stop(line, one));
        }
    }

    /** Two of three are near to an earlier one on its lane, as few would be put together else. */
    private void apply() {
        int lane = number(Math.min(lanes, 1 + random.nextInt(24)));
        int from = random.nextInt(20) == 0 ? within(0, 4900) : now + random.nextInt(span);
        if (permits > 0 && random.nextInt(3) > 0) {
            int near = random.nextInt(permits);
            lane = lanesOfPermits.get(near);
            from = model.from(near) - 20 + random.nextInt(40);
        }
        applyFor(lane, from);
    }

    private void applyFor(int lane, int from) {
        int applicant = number(6);
        int hours = within(1, random.nextInt(3) == 0 ? 40 : 12);
        int needs = random.nextInt(3) > 0 ? -1 : number(permits);
        boolean isUrgent = random.nextInt(4) == 0;
        if (both("apply(" + applicant + ", " + lane + ", " + from + ", " + hours + ", " + needs + ", "
                + isUrgent + ")", () -> x.apply(applicant, lane, from, hours, needs, isUrgent),
                () -> model.apply(applicant, lane, from, hours, needs, isUrgent))) {
            lanesOfPermits.add(lane);
            permits++;
        }
    }

    private void change() {
        int permit = number(permits);
        int line = number(lines);
        int hours = within(1, step);
        switch (random.nextInt(12)) {
            case 0, 1:
                apply();
                break;
            case 2:
                if (random.nextInt(3) == 0) {
                    both("withdraw(" + permit + ")", () -> x.withdraw(permit), () -> model.withdraw(permit));
                }
                break;
            case 3, 4, 5:
                both("begin(" + permit + ")", () -> x.begin(permit), () -> model.begin(permit));
                break;
            case 6, 7:
                both("finish(" + permit + ")", () -> x.finish(permit), () -> model.finish(permit));
                break;
            case 8:
                both("complain(" + line + ")", () -> x.complain(line), () -> model.complain(line));
                break;
            default:
                now += both("pass(" + hours + ")", () -> x.pass(hours), () -> model.pass(hours)) ? hours : 0;
        }
    }

    private void askRoads() {
        int one = number(10);
        int other = number(10);
        int lane = number(lanes);
        int line = number(lines);
        int season = within(0, 10);
        both("way(" + one + ", " + other + ")", () -> x.way(one, other), () -> model.way(one, other));
        both("isClosed(" + lane + ")", () -> x.isClosed(lane) ? 1 : 0, () -> model.isClosed(lane) ? 1 : 0);
        both("detour(" + line + ")", () -> x.detour(line), () -> model.detour(line));
        both("minutes(" + line + ")", () -> x.minutes(line), () -> model.minutes(line));
        both("minutesAnew(" + line + ")", () -> x.minutesAnew(line), () -> model.minutes(line));
        both("openings(" + lane + ", " + season + ")", () -> x.openings(lane, season),
                () -> model.openings(lane, season));
        both("openings(" + lane + ", now)", () -> x.openings(lane, now / 500), () -> model.openings(lane, now / 500));
    }

    private void askPermits() {
        int permit = number(permits);
        int applicant = number(6);
        both("state(" + permit + ")", () -> x.state(permit), () -> model.stateOf(permit));
        both("cause(" + permit + ")", () -> x.cause(permit), () -> model.causeOf(permit));
        both("from(" + permit + ")", () -> x.from(permit), () -> model.from(permit));
        both("end(" + permit + ")", () -> x.end(permit), () -> model.end(permit));
        both("together(" + permit + ")", () -> x.together(permit), () -> model.together(permit));
        both("fee(" + permit + ")", () -> x.fee(permit), () -> model.fee(permit));
        both("fine(" + permit + ")", () -> x.fine(permit), () -> model.fine(permit));
        both("points(" + applicant + ")", () -> x.points(applicant), () -> model.points(applicant));
        both("fines(" + applicant + ")", () -> x.fines(applicant), () -> model.fines(applicant));
    }

    private void run() {
        for (int turn = 0; calls < CALLS; turn++) {
            if (turn < building) {
                build();
            } else {
                change();
            }
            if (turn % 12 == 11) {
                askRoads();
                askPermits();
            }
        }
    }

    public static void main(String[] args) {
        for (int seed = 0; seed < RUNS; seed++) {
            new ModelTest(seed).run();
        }
        due.end();
    }
}
