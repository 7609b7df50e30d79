import java.util.function.Supplier;

/** The sentences that stand ahead of all promises: what an object is, its terms, its exceptions. */
final class TermSentences {
    private static final int NONE = PermitWeave.NONE;
    private static final String BOUNDS = Sentences.BOUNDS, ARGUMENT = Sentences.ARGUMENT, STATE = Sentences.STATE;

    private final Sentences s;

    private TermSentences(Sentences s) {
        this.s = s;
    }

    static void tell(Sentences s) {
        TermSentences terms = new TermSentences(s);
        terms.whatItIs();
        terms.firstException();
        terms.nothingChanges();
        terms.hoursAndSeasons();
        terms.constants();
    }

    private void whatItIs() {
        s.under("What it is");
        s.withoutEdge("A permit office, its road works and its bus network: junctions and lanes, lines that go round "
                + "closed lanes by the fewest minutes, permits with conditions that chain and a notice that grows by "
                + "complaints, works that are put together where a lane is opened already, trenches that are dug "
                + "early or late, and fines by passengers' minutes.");
        s.test("An object is used for at most 512 calls after it has been made; what later calls answer is "
                + "free.", () -> {
            PermitWeave x = new PermitWeave();
            for (int call = 1; call < 512; call++) {
                s.is("call " + call, x.way(0, 1), NONE);
            }
            s.is("the 512th call", x.lane(0, 1, 7), 0);
            PermitWeave y = Offices.street();
            for (int call = 5; call < 512; call++) {
                s.is("call " + call + ", refused", Due.thrownBy(() -> y.pass(0)), ARGUMENT);
            }
            s.is("the 512th call, after refused ones", y.way(1, 0), 4);
        });
    }

    private void firstException() {
        s.under("Terms");
        s.withoutEdge("The calls tell lanes, lines, permits, digs, complaints and hours, and ask for ways, detours, "
                + "openings, points, fees and fines. The aim is that no lane is opened twice in a season without a "
                + "reason.");
        s.test("If several exceptions apply to a call, the one that its comment lists first is thrown.", () -> {
            Supplier<PermitWeave> over = TermSentences::fullAndOver;
            s.refuses(BOUNDS, "lane, all three", over, x -> x.lane(10, 10, 0));
            s.refuses(ARGUMENT, "lane, the last two", over, x -> x.lane(9, 9, 31));
            s.refuses(STATE, "lane, the last", over, x -> x.lane(9, 8, 30));
            s.refuses(BOUNDS, "line, all three", over, x -> x.line(-1, 501));
            s.refuses(ARGUMENT, "line, the last two", over, x -> x.line(0, 501));
            s.refuses(STATE, "line, the last", over, x -> x.line(0, 500));
            s.refuses(BOUNDS, "stop of no line, at none", over, x -> x.stop(6, 10));
            s.refuses(BOUNDS, "stop of a line at none", over, x -> x.stop(5, 10));
            s.refuses(BOUNDS, "stop of no line at one", over, x -> x.stop(6, 0));
            s.refuses(ARGUMENT, "stop, the last two", over, x -> x.stop(0, 5));
            s.refuses(STATE, "stop, the last", over, x -> x.stop(0, 4));
            s.refuses(BOUNDS, "apply, all three", over, x -> x.apply(6, 24, -1, 41, 40, false));
            s.refuses(BOUNDS, "apply, the permit and the last two", over, x -> x.apply(5, 23, 0, 0, -2, true));
            s.refuses(ARGUMENT, "apply, the last two", over, x -> x.apply(5, 23, 0, 40, 39, true));
            s.refuses(STATE, "apply, the last", over, x -> x.apply(5, 23, 4900, 40, 39, true));
            s.refuses(BOUNDS, "openings, both", over, x -> x.openings(24, 11));
            s.refuses(ARGUMENT, "openings, the last", over, x -> x.openings(23, 11));
            Supplier<PermitWeave> last = () -> Offices.townAt(5000);
            s.refuses(ARGUMENT, "pass, both", last, x -> x.pass(201));
            s.refuses(STATE, "pass, the last", last, x -> x.pass(200));
        });
    }

    /** Full of all, and at the hour 200. */
    private static PermitWeave fullAndOver() {
        PermitWeave x = Offices.full();
        x.pass(200);
        return x;
    }

    private void nothingChanges() {
        s.test("A call that throws an exception changes nothing.", () -> {
            Supplier<PermitWeave> busy = Offices::busy;
            s.refuses(STATE, "lane", busy, x -> x.lane(0, 1, 1));
            s.refuses(STATE, "line", busy, x -> x.line(0, 1));
            s.refuses(STATE, "stop", busy, x -> x.stop(0, 0));
            s.refuses(BOUNDS, "way", busy, x -> x.way(0, 10));
            s.refuses(BOUNDS, "isClosed", busy, x -> x.isClosed(3));
            s.refuses(BOUNDS, "detour", busy, x -> x.detour(2));
            s.refuses(BOUNDS, "minutes", busy, x -> x.minutes(2));
            s.refuses(BOUNDS, "minutesAnew", busy, x -> x.minutesAnew(2));
            s.refuses(BOUNDS, "apply with no need", busy, x -> x.apply(0, 0, 600, 1, 8, true));
            s.refuses(ARGUMENT, "apply for an hour gone by", busy, x -> x.apply(0, 0, 5, 1, NONE, true));
            s.refuses(STATE, "apply for the 41st", Offices::full, x -> x.apply(0, 0, 4900, 1, NONE, true));
            s.refuses(STATE, "withdraw", busy, x -> x.withdraw(7));
            s.refuses(STATE, "begin", busy, x -> x.begin(7));
            s.refuses(STATE, "finish", busy, x -> x.finish(0));
            s.refuses(BOUNDS, "state", busy, x -> x.state(8));
            s.refuses(BOUNDS, "cause", busy, x -> x.cause(8));
            s.refuses(BOUNDS, "from", busy, x -> x.from(8));
            s.refuses(BOUNDS, "end", busy, x -> x.end(8));
            s.refuses(BOUNDS, "together", busy, x -> x.together(8));
            s.refuses(ARGUMENT, "openings", busy, x -> x.openings(0, 11));
            s.refuses(BOUNDS, "fee", busy, x -> x.fee(8));
            s.refuses(ARGUMENT, "pass", busy, x -> x.pass(201));
            s.refuses(STATE, "pass beyond the end", () -> Offices.townAt(4999), x -> x.pass(2));
            s.refuses(BOUNDS, "complain", busy, x -> x.complain(2));
            s.refuses(BOUNDS, "points", busy, x -> x.points(6));
            s.refuses(BOUNDS, "fine", busy, x -> x.fine(8));
            s.refuses(BOUNDS, "fines", busy, x -> x.fines(6));
        });
    }

    private void hoursAndSeasons() {
        s.test("Hours are numbered from 0 to 5000; now is the hour 0 at first.", () -> {
            PermitWeave x = new PermitWeave();
            s.is("at first lanes are added, so it is the hour 0", x.lane(0, 1, 1), 0);
            s.is("the hour 0 can be applied for", x.apply(0, 0, 0, 1, NONE, true), 0);
            s.is("the next hour", x.pass(1), 1);
            Offices.passTo(x, 1, 4999);
            s.is("the last hour", x.pass(1), 5000);
            s.is("no hour behind", Due.thrownBy(() -> x.pass(1)), STATE);
        });
        s.test("A season is 500 hours: the season of an hour is the hour divided by 500, rounded down.", () -> {
            int[] hours = {0, 1, 499, 500, 999, 1000, 4499, 4500, 4899, 4900};
            int[] seasons = {0, 0, 0, 1, 1, 2, 8, 9, 9, 9};
            for (int k = 0; k < hours.length; k++) {
                PermitWeave x = Offices.town();
                x.apply(0, 0, hours[k], 1, NONE, true);
                for (int season = 0; season <= 10; season++) {
                    s.is("an opening at " + hours[k] + " in the season " + season, x.openings(0, season),
                            season == seasons[k] ? 1 : 0);
                }
            }
        });
        s.test("There are the junctions 0 to 9 and the applicants 0 to 5.", () -> {
            PermitWeave x = new PermitWeave();
            for (int junction = 0; junction < 10; junction++) {
                s.is("junction " + junction, x.way(junction, junction), 0);
            }
            for (int applicant = 0; applicant < 6; applicant++) {
                s.is("applicant " + applicant, x.points(applicant), 0);
            }
            s.refusesEach(BOUNDS, "junction", Sentences.beside(0, 9), PermitWeave::new, (y, wrong) -> y.way(wrong, 0));
            s.refusesEach(BOUNDS, "applicant", Sentences.beside(0, 5), PermitWeave::new, (y, wrong) -> y.points(wrong));
        });
        s.withoutEdge("Amounts are cents.");
    }

    private void constants() {
        s.under("Digs");
        s.withoutEdge("The constants:");
        s.test("`NONE = -1`: None; no cause.", () -> {
            s.is("NONE", PermitWeave.NONE, -1);
            PermitWeave x = Offices.town();
            x.apply(0, 0, 10, 1, -1, false);
            s.is("no cause", x.cause(0), -1);
            s.is("no way", x.way(0, 9), -1);
        });
        s.test("`GRANTED = 0, REFUSED = 1, OPEN = 2, DONE = 3, VOID = 4`: States of permits.", () -> {
            int[] states = {PermitWeave.GRANTED, PermitWeave.REFUSED, PermitWeave.OPEN, PermitWeave.DONE,
                PermitWeave.VOID};
            int[] permits = {2, 4, 1, 0, 5};
            for (int k = 0; k < 5; k++) {
                s.is("the constant", states[k], k);
                s.is("a permit in that state", Offices.busy().state(permits[k]), k);
            }
        });
        s.test("`LATE = 0, CHAIN = 1, LONG = 2, TWICE = 3`: Why a permit is REFUSED.", () -> {
            int[] causes = {PermitWeave.LATE, PermitWeave.CHAIN, PermitWeave.LONG, PermitWeave.TWICE};
            PermitWeave x = Offices.town();
            x.apply(0, 0, 10, 5, NONE, false);
            x.apply(0, 0, 1, 1, NONE, false);
            x.apply(0, 0, 10, 1, 0, false);
            x.apply(0, 0, 14, 40, NONE, false);
            x.apply(0, 0, 15, 1, NONE, false);
            for (int k = 0; k < 4; k++) {
                s.is("the constant", causes[k], k);
                s.is("a permit with that cause", x.cause(1 + k), k);
            }
        });
    }
}
