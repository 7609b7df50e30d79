import java.util.function.ObjIntConsumer;

/** Promises 21 to 25: hours, complaints and fines. */
final class HourSentences {
    private static final int NONE = PermitWeave.NONE;
    private static final String BOUNDS = Sentences.BOUNDS, ARGUMENT = Sentences.ARGUMENT, STATE = Sentences.STATE;
    private static final int[] NO_HOURS = Sentences.beside(1, 200);

    private final Sentences s;

    private HourSentences(Sentences s) {
        this.s = s;
    }

    static void tell(Sentences s) {
        HourSentences hours = new HourSentences(s);
        hours.pass();
        hours.complain();
        hours.points();
        hours.fine();
        hours.fines();
    }

    private void pass() {
        s.under("Promise 21: pass");
        s.test("Lets hours pass.", () -> {
            PermitWeave once = Offices.street();
            Offices.dig(once, 0, 0, 3, 4);
            once.pass(9);
            PermitWeave often = Offices.street();
            Offices.dig(often, 0, 0, 3, 4);
            for (int hour = 1; hour <= 9; hour++) {
                s.is("hour by hour", often.pass(1), hour);
            }
            s.is("the minutes of 9 hours", once.minutes(0), 270);
            s.is("the fine of 5 of them", once.fine(0), 300);
            s.is("all at once is the same", Views.ofPermits(once), Views.ofPermits(often));
            s.is("on the roads, too", Views.ofRoads(once), Views.ofRoads(often));
        });
        s.test("`hours`: 1 to 200", () -> {
            for (int hours : new int[] {1, 2, 199, 200}) {
                s.is("pass(" + hours + ")", new PermitWeave().pass(hours), hours);
            }
            s.refuses(ARGUMENT, "0 hours", Offices::busy, x -> x.pass(0));
            s.refuses(ARGUMENT, "201 hours", Offices::busy, x -> x.pass(201));
        });
        s.test("Returns now.", () -> {
            PermitWeave x = new PermitWeave();
            s.is("after one", x.pass(1), 1);
            s.is("after 201", x.pass(200), 201);
            s.is("after 300", x.pass(99), 300);
            s.is("it is now", Due.thrownBy(() -> Offices.townAt(300).apply(0, 0, 299, 1, NONE, true)), ARGUMENT);
        });
        s.test("Throws `IllegalArgumentException` if hours is out of its range", () -> {
            s.refusesEach(ARGUMENT, "hours", NO_HOURS, Offices::town, (x, wrong) -> x.pass(wrong));
            s.refusesEach(ARGUMENT, "hours, busy", NO_HOURS, Offices::busy, (x, wrong) -> x.pass(wrong));
            s.refusesEach(ARGUMENT, "hours at 5000", NO_HOURS, () -> Offices.townAt(5000), (x, wrong) -> x.pass(wrong));
        });
        s.test("Throws `IllegalStateException` if now would be above 5000", () -> {
            for (int now : new int[] {4800, 4801, 4950, 4999}) {
                int left = 5000 - now;
                s.is("to 5000 from " + now, Offices.townAt(now).pass(left), 5000);
            }
            for (int now : new int[] {4801, 4950, 4999, 5000}) {
                int left = 5000 - now;
                s.refuses(STATE, "to 5001 from " + now, () -> Offices.townAt(now), x -> x.pass(left + 1));
                s.refuses(STATE, "200 hours from " + now, () -> Offices.townAt(now), x -> x.pass(200));
            }
            s.refuses(STATE, "with digs", HourSentences::lastHours, x -> x.pass(2));
            s.is("the last hour with digs", lastHours().pass(1), 5000);
        });
    }

    /** At 4999, with a dig that has points and a fine. */
    private static PermitWeave lastHours() {
        PermitWeave x = Offices.street();
        Offices.passTo(x, 0, 4900);
        Offices.dig(x, 0, 0, 4900, 1);
        x.pass(99);
        return x;
    }

    private void complain() {
        s.under("Promise 22: complain");
        s.test("Lets passengers of a line complain.", () -> {
            PermitWeave x = Offices.street();
            Offices.dig(x, 4, 0, 0, 40);
            x.complain(0);
            s.is("the point", x.points(4), 1);
            s.is("no fine", x.fine(0), 0);
            s.is("no hour has passed", x.pass(1), 1);
        });
        s.test("`line`: its number", () -> {
            PermitWeave x = Offices.streetOfSixLines();
            Offices.dig(x, 4, 0, 0, 40);
            s.is("the first", x.complain(0), 1);
            s.is("one that is not hurt", x.complain(1), 0);
            s.is("the last, without passengers", x.complain(5), 1);
            s.refuses(BOUNDS, "line -1", Offices::busy, y -> y.complain(-1));
            s.refuses(BOUNDS, "line 2 of two", Offices::busy, y -> y.complain(2));
        });
        s.test("Returns how many applicants get a point.", () -> {
            PermitWeave x = sixPairs();
            s.is("none", x.complain(0), 0);
            for (int applicant = 0; applicant < 6; applicant++) {
                Offices.dig(x, applicant, 2 * applicant, 0, 40);
                s.is("of the applicants 0 to " + applicant, x.complain(0), applicant + 1);
            }
            for (int applicant = 0; applicant < 6; applicant++) {
                s.is("points(" + applicant + ")", x.points(applicant), 6 - applicant);
            }
        });
        s.test("Throws `IndexOutOfBoundsException` if there is no such line", () ->
            s.refusesLines("complain", (x, wrong) -> x.complain(wrong)));
    }

    /** A way over seven junctions, each time over a lane of 1 minute, or one of more, and a line along it. */
    private static PermitWeave sixPairs() {
        PermitWeave x = new PermitWeave();
        for (int junction = 0; junction < 6; junction++) {
            x.lane(junction, junction + 1, 1);
            x.lane(junction, junction + 1, 2 + junction);
        }
        x.line(0, 1);
        x.stop(0, 6);
        return x;
    }

    private void refusesApplicants(String call, ObjIntConsumer<PermitWeave> asked) {
        s.refusesEach(BOUNDS, call, Sentences.beside(0, 5), PermitWeave::new, asked);
        s.refusesEach(BOUNDS, call, Sentences.beside(0, 5), Offices::busy, asked);
        s.refusesEach(BOUNDS, call, Sentences.beside(0, 5), Offices::full, asked);
    }

    private void points() {
        s.under("Promise 23: points");
        s.test("Returns the points of an applicant.", () -> {
            PermitWeave x = Offices.street();
            Offices.dig(x, 2, 0, 50, 1);
            s.is("at first", x.points(2), 0);
            x.pass(1);
            s.is("an hour beside its hours", x.points(2), 1);
            x.complain(0);
            s.is("a complaint", x.points(2), 2);
            x.finish(0);
            s.is("they stay", x.points(2), 2);
        });
        s.test("`applicant`: 0 to 5", () -> {
            for (int applicant : new int[] {0, 5}) {
                PermitWeave x = Offices.street();
                Offices.dig(x, applicant, 0, 50, 1);
                x.complain(0);
                s.is("points(" + applicant + ")", x.points(applicant), 1);
                s.is("not of another", x.points(5 - applicant), 0);
            }
            s.refuses(BOUNDS, "applicant -1", Offices::busy, x -> x.points(-1));
            s.refuses(BOUNDS, "applicant 6", Offices::busy, x -> x.points(6));
        });
        s.test("Returns the points.", () -> {
            int[] due = {3, 2, 0, 0, 2, 0};
            for (int applicant = 0; applicant < 6; applicant++) {
                s.is("points(" + applicant + ")", Offices.busy().points(applicant), due[applicant]);
            }
        });
        s.test("Throws `IndexOutOfBoundsException` if there is no such applicant", () ->
            refusesApplicants("points of", (x, wrong) -> x.points(wrong)));
    }

    private void fine() {
        s.under("Promise 24: fine");
        s.test("Returns the fine of a permit so far.", () -> {
            PermitWeave x = Offices.street();
            x.apply(0, 0, 2, 3, NONE, false);
            s.is("GRANTED", x.fine(0), 0);
            x.begin(0);
            s.is("OPEN, no hour has passed", x.fine(0), 0);
            x.pass(1);
            s.is("OPEN, one hour early", x.fine(0), 60);
            x.pass(1);
            s.is("OPEN, two hours early", x.fine(0), 120);
            x.finish(0);
            x.pass(200);
            s.is("DONE", x.fine(0), 120);
            s.is("REFUSED", x.fine(x.apply(0, 0, 203, 1, NONE, false)), 0);
        });
        s.test("`permit`: its number", () -> {
            PermitWeave x = Offices.busy();
            s.is("the first", x.fine(0), 3 * 60);
            s.is("the last", x.fine(7), 2 * 2 * 600);
        });
        s.test("Returns the fine.", () -> {
            PermitWeave x = Offices.dearest();
            Offices.passTo(x, 0, 5000);
            s.is("above what an int holds", x.fine(0), 4999L * 2 * 500 * 5 * 240);
        });
        s.test("Throws `IndexOutOfBoundsException` if there is no such permit", () ->
            s.refusesPermits("fine", (x, wrong) -> x.fine(wrong)));
    }

    private void fines() {
        s.under("Promise 25: fines");
        s.test("Returns the fines of all permits of an applicant together.", () -> {
            PermitWeave x = Offices.street();
            s.is("no permit", x.fines(3), 0);
            Offices.dig(x, 3, 0, 50, 1);
            x.pass(1);
            s.is("one OPEN", x.fines(3), 60);
            x.finish(0);
            s.is("one DONE", x.fines(3), 60);
            Offices.dig(x, 3, 0, 50, 1);
            Offices.dig(x, 2, 1, 50, 1);
            x.pass(1);
            s.is("both lanes are closed", x.fine(1), 2 * 10 * 60);
            s.is("two together", x.fines(3), 60 + x.fine(1));
            s.is("another's", x.fines(2), x.fine(2));
        });
        s.test("`applicant`: 0 to 5", () -> {
            for (int applicant : new int[] {0, 5}) {
                PermitWeave x = Offices.street();
                Offices.dig(x, applicant, 0, 50, 1);
                x.pass(1);
                s.is("fines(" + applicant + ")", x.fines(applicant), 60);
                s.is("not of another", x.fines(5 - applicant), 0);
            }
            s.refuses(BOUNDS, "applicant -1", Offices::busy, x -> x.fines(-1));
            s.refuses(BOUNDS, "applicant 6", Offices::busy, x -> x.fines(6));
        });
        s.test("Returns the fines.", () -> {
            PermitWeave x = Offices.dearest();
            Offices.passTo(x, 0, 5000);
            s.is("above what an int holds", x.fines(0), 4999L * 2 * 500 * 5 * (240 + 210));
        });
        s.test("Throws `IndexOutOfBoundsException` if there is no such applicant", () ->
            refusesApplicants("fines of", (x, wrong) -> x.fines(wrong)));
    }
}
