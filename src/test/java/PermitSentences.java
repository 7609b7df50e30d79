import java.util.function.Supplier;

/** Promises 10 to 20: permits. */
final class PermitSentences {
    private static final int NONE = PermitWeave.NONE;
    private static final int GRANTED = PermitWeave.GRANTED, REFUSED = PermitWeave.REFUSED, OPEN = PermitWeave.OPEN,
            DONE = PermitWeave.DONE, VOID = PermitWeave.VOID;
    private static final String BOUNDS = Sentences.BOUNDS, ARGUMENT = Sentences.ARGUMENT, STATE = Sentences.STATE;
    private static final int[] NO_APPLICANTS = Sentences.beside(0, 5);
    private static final int[] NO_LANES_OF_THE_TOWN = Sentences.beside(0, 5);
    private static final int[] NO_HOURS = Sentences.beside(1, 40);
    private static final int[] NO_FIRST_HOURS = Sentences.beside(0, 4900);

    private static final int[] NO_SEASONS = Sentences.beside(0, 10);

    private final Sentences s;

    private PermitSentences(Sentences s) {
        this.s = s;
    }

    static void tell(Sentences s) {
        PermitSentences permits = new PermitSentences(s);
        permits.apply();
        permits.applyAnswers();
        permits.applyForNothing();
        permits.applyForWrongHours();
        permits.applyForTooMany();
        permits.withdraw();
        permits.begin();
        permits.finish();
        permits.state();
        permits.cause();
        permits.from();
        permits.end();
        permits.together();
        permits.openings();
        permits.fee();
    }

    private static Supplier<PermitWeave> townAt(int hour) {
        return () -> Offices.townAt(hour);
    }

    /** The town with the permit 0, of lane 0, from 10 to 15, that is GRANTED. */
    private static PermitWeave townOfOne() {
        PermitWeave x = Offices.town();
        x.apply(0, 0, 10, 5, NONE, false);
        return x;
    }

    private void apply() {
        s.under("Promise 10: apply");
        s.test("Applies for a permit.", () -> {
            PermitWeave x = Offices.town();
            int permit = x.apply(3, 2, 10, 5, NONE, false);
            s.is("state", x.state(permit), GRANTED);
            s.is("cause", x.cause(permit), NONE);
            s.is("from", x.from(permit), 10);
            s.is("end", x.end(permit), 15);
            s.is("alone", x.together(permit), 1);
            s.is("an opening of its lane", x.openings(2, 0), 1);
            s.is("of no other", x.openings(1, 0) + x.openings(3, 0), 0);
            s.is("not closed", x.isClosed(2), false);
        });
        s.test("`applicant`: 0 to 5", () -> {
            for (int applicant : new int[] {0, 5}) {
                PermitWeave x = Offices.street();
                s.is("apply of " + applicant, x.apply(applicant, 0, 10, 1, NONE, false), 0);
                x.begin(0);
                x.pass(1);
                s.is("the point is of " + applicant, x.points(applicant), 1);
                s.is("not of another", x.points(5 - applicant), 0);
            }
            s.refuses(BOUNDS, "applicant -1", Offices::town, x -> x.apply(-1, 0, 10, 1, NONE, false));
            s.refuses(BOUNDS, "applicant 6", Offices::town, x -> x.apply(6, 0, 10, 1, NONE, false));
        });
        s.test("`lane`: the lane", () -> {
            PermitWeave x = Offices.town();
            x.begin(x.apply(0, 0, 10, 1, NONE, false));
            x.begin(x.apply(0, 5, 10, 1, NONE, false));
            s.is("the first is closed", x.isClosed(0), true);
            s.is("the last is closed", x.isClosed(5), true);
            s.is("none between", x.isClosed(1) || x.isClosed(4), false);
            s.refuses(BOUNDS, "lane -1", Offices::town, y -> y.apply(0, -1, 10, 1, NONE, false));
            s.refuses(BOUNDS, "lane 6 of six", Offices::town, y -> y.apply(0, 6, 10, 1, NONE, false));
            s.is("lane 23 of 24", Offices.fullRoads().apply(0, 23, 10, 1, NONE, false), 0);
        });
        s.test("`isUrgent`: whether it is urgent", () -> {
            PermitWeave x = Offices.town();
            s.is("at once, urgent", x.state(x.apply(0, 0, 0, 1, NONE, true)), GRANTED);
            s.is("at once, not urgent", x.state(x.apply(0, 1, 0, 1, NONE, false)), REFUSED);
        });
    }

    private void applyAnswers() {
        s.test("`from`: 0 to 4900", () -> {
            for (int from : new int[] {0, 1, 4899, 4900}) {
                PermitWeave x = Offices.town();
                s.is("apply from " + from, x.apply(0, 0, from, 40, NONE, true), 0);
                s.is("from", x.from(0), from);
                s.is("end", x.end(0), from + 40);
            }
            s.refuses(ARGUMENT, "from -1", Offices::town, x -> x.apply(0, 0, -1, 1, NONE, true));
            s.refuses(ARGUMENT, "from 4901", Offices::town, x -> x.apply(0, 0, 4901, 1, NONE, true));
        });
        s.test("`hours`: 1 to 40", () -> {
            for (int hours : new int[] {1, 2, 39, 40}) {
                PermitWeave x = Offices.town();
                s.is("apply for " + hours, x.apply(0, 0, 10, hours, NONE, false), 0);
                s.is("state", x.state(0), GRANTED);
                s.is("end", x.end(0), 10 + hours);
            }
            s.refuses(ARGUMENT, "for 0 hours", Offices::town, x -> x.apply(0, 0, 10, 0, NONE, true));
            s.refuses(ARGUMENT, "for 41 hours", Offices::town, x -> x.apply(0, 0, 10, 41, NONE, true));
        });
        s.test("`needs`: a permit, or NONE", () -> {
            s.is("NONE of none", Offices.town().apply(0, 0, 10, 1, NONE, false), 0);
            PermitWeave x = townOfOne();
            s.is("NONE of one", x.apply(0, 1, 20, 1, NONE, false), 1);
            s.is("the first", x.apply(0, 2, 20, 1, 0, false), 2);
            s.is("the last", x.apply(0, 3, 21, 1, 2, false), 3);
            s.is("NONE needs none", x.begin(1), 20);
            s.is("the first is not DONE", Due.thrownBy(() -> x.begin(2)), STATE);
            s.refuses(BOUNDS, "-2", PermitSentences::townOfOne, y -> y.apply(0, 1, 20, 1, -2, false));
            s.refuses(BOUNDS, "itself", PermitSentences::townOfOne, y -> y.apply(0, 1, 20, 1, 1, false));
        });
        s.test("Returns its number.", () -> {
            PermitWeave x = Offices.town();
            for (int permit = 0; permit < 40; permit++) {
                s.is("apply", x.apply(0, 0, permit, 1, NONE, permit % 2 == 0), permit);
                int added = permit;
                s.is("it is there", Due.thrownBy(() -> x.state(added)), "nothing");
            }
        });
    }

    private void applyForNothing() {
        s.test("Throws `IndexOutOfBoundsException` if there is no such applicant, lane or permit, that not being "
                + "NONE", () -> {
            s.refusesEach(BOUNDS, "applicant", NO_APPLICANTS, PermitSentences::townOfOne,
                    (x, wrong) -> x.apply(wrong, 0, 10, 1, NONE, false));
            s.refusesEach(BOUNDS, "lane", NO_LANES_OF_THE_TOWN, PermitSentences::townOfOne,
                    (x, wrong) -> x.apply(0, wrong, 10, 1, NONE, false));
            s.refusesEach(BOUNDS, "needs", Sentences.beside(-1, 0), PermitSentences::townOfOne,
                    (x, wrong) -> x.apply(0, 0, 10, 1, wrong, false));
            s.refuses(BOUNDS, "needs 0 of none", Offices::town, x -> x.apply(0, 0, 10, 1, 0, false));
            s.refusesEach(BOUNDS, "applicant, and 0 hours", NO_APPLICANTS, Offices::busy,
                    (x, wrong) -> x.apply(wrong, 0, 10, 0, NONE, false));
            s.refusesEach(BOUNDS, "lane, and an hour gone by", Sentences.beside(0, 2), Offices::busy,
                    (x, wrong) -> x.apply(0, wrong, 5, 1, NONE, false));
            s.refusesEach(BOUNDS, "needs, and from 4901", Sentences.beside(-1, 7), Offices::busy,
                    (x, wrong) -> x.apply(0, 0, 4901, 1, wrong, true));
            s.refusesEach(BOUNDS, "applicant, the 41st", NO_APPLICANTS, Offices::full,
                    (x, wrong) -> x.apply(wrong, 0, 10, 1, NONE, true));
            s.refusesEach(BOUNDS, "lane, the 41st", Sentences.beside(0, 23), Offices::full,
                    (x, wrong) -> x.apply(0, wrong, 10, 41, NONE, true));
            s.refusesEach(BOUNDS, "needs, the 41st", Sentences.beside(-1, 39), Offices::full,
                    (x, wrong) -> x.apply(0, 0, 10, 1, wrong, true));
        });
    }

    private void applyForWrongHours() {
        s.test("Throws `IllegalArgumentException` if from or hours is out of its range, or from is less than "
                + "now", () -> {
            s.refusesEach(ARGUMENT, "from", NO_FIRST_HOURS, PermitSentences::townOfOne,
                    (x, wrong) -> x.apply(0, 0, wrong, 1, NONE, true));
            s.refusesEach(ARGUMENT, "hours", NO_HOURS, PermitSentences::townOfOne,
                    (x, wrong) -> x.apply(0, 0, 10, wrong, NONE, true));
            s.refusesEach(ARGUMENT, "from, the 41st", NO_FIRST_HOURS, Offices::full,
                    (x, wrong) -> x.apply(0, 0, wrong, 1, NONE, true));
            s.refusesEach(ARGUMENT, "hours, the 41st", NO_HOURS, Offices::full,
                    (x, wrong) -> x.apply(0, 0, 10, wrong, NONE, true));
            for (int now : new int[] {1, 10, 499, 4900}) {
                int before = now - 1;
                s.refuses(ARGUMENT, "from " + before + " at " + now, townAt(now),
                        x -> x.apply(0, 0, before, 1, NONE, true));
                s.is("from now", Offices.townAt(now).apply(0, 0, now, 1, NONE, true), 0);
            }
            s.refuses(ARGUMENT, "from 0 at 4900", townAt(4900), x -> x.apply(0, 0, 0, 1, NONE, true));
            s.refuses(ARGUMENT, "from 4900 at 4901", townAt(4901), x -> x.apply(0, 0, 4900, 1, NONE, true));
            s.refuses(ARGUMENT, "from 4901 at 4901", townAt(4901), x -> x.apply(0, 0, 4901, 1, NONE, true));
            s.refuses(ARGUMENT, "from 4900 at 5000", townAt(5000), x -> x.apply(0, 0, 4900, 1, NONE, true));
        });
    }

    private void applyForTooMany() {
        s.test("Throws `IllegalStateException` if there are 40", () -> {
            PermitWeave x = Offices.town();
            for (int permit = 0; permit < 40; permit++) {
                s.is("apply", x.apply(0, 0, 10, 1, NONE, false), permit);
            }
            s.is("the 41st", Due.thrownBy(() -> x.apply(0, 0, 10, 1, NONE, false)), STATE);
            s.refuses(STATE, "the 41st, urgent", Offices::full, y -> y.apply(0, 0, 10, 1, NONE, true));
            s.refuses(STATE, "the 41st, LATE", Offices::full, y -> y.apply(0, 0, 0, 1, NONE, false));
            s.refuses(STATE, "the 41st, needing one", Offices::full, y -> y.apply(0, 0, 4900, 1, 39, true));
            s.refuses(STATE, "REFUSED ones count", PermitSentences::fortyRefused,
                    y -> y.apply(0, 0, 10, 1, NONE, true));
            s.refuses(STATE, "VOID ones count", PermitSentences::fortyVoid, y -> y.apply(0, 0, 10, 1, NONE, true));
        });
    }

    private static PermitWeave fortyRefused() {
        PermitWeave x = Offices.town();
        for (int permit = 0; permit < 40; permit++) {
            x.apply(0, 0, 1, 1, NONE, false);
        }
        return x;
    }

    private static PermitWeave fortyVoid() {
        PermitWeave x = fortyInAChain();
        x.withdraw(0);
        return x;
    }

    private static PermitWeave fortyInAChain() {
        PermitWeave x = Offices.town();
        x.apply(0, 0, 0, 1, NONE, true);
        for (int permit = 1; permit < 40; permit++) {
            x.apply(0, 0, permit, 1, permit - 1, true);
        }
        return x;
    }

    private void withdraw() {
        s.under("Promise 11: withdraw");
        s.test("Withdraws a permit.", () -> {
            PermitWeave x = townOfOne();
            x.withdraw(0);
            s.is("state", x.state(0), VOID);
            s.is("its opening is there no more", x.openings(0, 0), 0);
        });
        s.test("`permit`: its number", () -> {
            s.is("the first", Offices.full().withdraw(10), 1);
            s.is("the last", Offices.full().withdraw(39), 1);
            PermitWeave x = Offices.full();
            x.withdraw(39);
            s.is("that one", x.state(39), VOID);
            s.is("no other", x.state(38), GRANTED);
        });
        s.test("Returns how many permits are VOID by that.", () -> {
            s.is("one that nobody needs", townOfOne().withdraw(0), 1);
            s.is("the last of 40", fortyInAChain().withdraw(39), 1);
            s.is("the last but one of 40", fortyInAChain().withdraw(38), 2);
            s.is("the first of 40", fortyInAChain().withdraw(0), 40);
            PermitWeave x = fortyInAChain();
            x.withdraw(39);
            s.is("one is VOID already", x.withdraw(37), 2);
        });
        s.test("Throws `IndexOutOfBoundsException` if there is no such permit", () ->
            s.refusesPermits("withdraw", (x, wrong) -> x.withdraw(wrong)));
        s.test("Throws `IllegalStateException` if it is not GRANTED", () -> {
            s.refuses(STATE, "DONE", Offices::busy, x -> x.withdraw(0));
            s.refuses(STATE, "OPEN", Offices::busy, x -> x.withdraw(1));
            s.refuses(STATE, "REFUSED", Offices::busy, x -> x.withdraw(4));
            s.refuses(STATE, "VOID", Offices::busy, x -> x.withdraw(5));
            s.refuses(STATE, "VOID by another", Offices::busy, x -> x.withdraw(6));
            s.is("GRANTED", Offices.busy().withdraw(2), 1);
        });
    }

    private void begin() {
        s.under("Promise 12: begin");
        s.test("Begins to dig.", () -> {
            PermitWeave x = townOfOne();
            x.begin(0);
            s.is("state", x.state(0), OPEN);
            s.is("its lane", x.isClosed(0), true);
        });
        s.test("`permit`: its number", () -> {
            PermitWeave x = Offices.full();
            x.begin(39);
            s.is("the last", x.state(39), OPEN);
            s.is("no other", x.state(38), GRANTED);
            s.is("the first", townOfOne().begin(0), 10);
        });
        s.test("Returns how many hours too early that is, below 0 if its hours have begun already.", () -> {
            for (int now : new int[] {0, 9, 10, 11, 14, 15, 5000}) {
                PermitWeave x = townOfOne();
                Offices.passTo(x, 0, now);
                s.is("from 10 at " + now, x.begin(0), 10 - now);
            }
            PermitWeave early = Offices.town();
            early.apply(0, 0, 4900, 1, NONE, false);
            s.is("as early as can be", early.begin(0), 4900);
            PermitWeave late = Offices.town();
            late.apply(0, 0, 0, 1, NONE, true);
            Offices.passTo(late, 0, 5000);
            s.is("as late as can be", late.begin(0), -5000);
            PermitWeave grown = townOfOne();
            grown.apply(0, 0, 6, 5, NONE, false);
            s.is("by the hours of its opening", grown.begin(0), 6);
        });
        s.test("Throws `IndexOutOfBoundsException` if there is no such permit", () ->
            s.refusesPermits("begin", (x, wrong) -> x.begin(wrong)));
        s.test("Throws `IllegalStateException` if it is not GRANTED, or the one that it needs is not DONE", () -> {
            s.refuses(STATE, "DONE", Offices::busy, x -> x.begin(0));
            s.refuses(STATE, "OPEN", Offices::busy, x -> x.begin(1));
            s.refuses(STATE, "REFUSED", Offices::busy, x -> x.begin(4));
            s.refuses(STATE, "VOID", Offices::busy, x -> x.begin(5));
            s.refuses(STATE, "VOID by another", Offices::busy, x -> x.begin(6));
            s.is("GRANTED", Offices.busy().begin(2), 34);
            s.is("GRANTED, the other is DONE", Offices.busy().begin(3), 34);
            s.refuses(STATE, "the other is GRANTED", PermitSentences::fortyInAChain, x -> x.begin(1));
            s.refuses(STATE, "the other is OPEN", PermitSentences::chainBegun, x -> x.begin(1));
            PermitWeave x = chainBegun();
            x.finish(0);
            s.is("now it is DONE", x.begin(1), 1);
            s.is("the third needs the second", Due.thrownBy(() -> x.begin(2)), STATE);
        });
    }

    private static PermitWeave chainBegun() {
        PermitWeave x = fortyInAChain();
        x.begin(0);
        return x;
    }

    private void finish() {
        s.under("Promise 13: finish");
        s.test("Finishes to dig.", () -> {
            PermitWeave x = townOfOne();
            x.begin(0);
            x.finish(0);
            s.is("state", x.state(0), DONE);
            s.is("its lane", x.isClosed(0), false);
        });
        s.test("`permit`: its number", () -> {
            PermitWeave x = Offices.full();
            x.begin(39);
            x.finish(39);
            s.is("the last", x.state(39), DONE);
            x.finish(0);
            s.is("the first", x.state(0), DONE);
            s.is("no other", x.state(1), OPEN);
        });
        s.test("Returns its fine.", () -> {
            PermitWeave x = Offices.street();
            x.apply(0, 0, 10, 5, NONE, false);
            x.begin(0);
            s.is("no hour has passed", x.finish(0), 0);
            x = Offices.street();
            x.apply(0, 0, 10, 5, NONE, false);
            x.begin(0);
            Offices.passTo(x, 0, 16);
            s.is("10 hours early and one late", x.finish(0), 11 * 2 * 30);
            s.is("as told by fine", x.fine(0), 660);
            x = Offices.dearest();
            Offices.passTo(x, 0, 5000);
            s.is("above what an int holds", x.finish(0), 4999L * 2 * 500 * 5 * 240);
        });
        s.test("Throws `IndexOutOfBoundsException` if there is no such permit", () ->
            s.refusesPermits("finish", (x, wrong) -> x.finish(wrong)));
        s.test("Throws `IllegalStateException` if it is not OPEN", () -> {
            s.refuses(STATE, "DONE", Offices::busy, x -> x.finish(0));
            s.refuses(STATE, "GRANTED", Offices::busy, x -> x.finish(2));
            s.refuses(STATE, "REFUSED", Offices::busy, x -> x.finish(4));
            s.refuses(STATE, "VOID", Offices::busy, x -> x.finish(5));
            s.is("OPEN", Offices.busy().finish(1), 2 * 2 * 570);
        });
    }

    private void state() {
        s.under("Promise 14: state");
        s.test("Returns the state of a permit.", () -> {
            PermitWeave x = townOfOne();
            s.is("applied for", x.state(0), GRANTED);
            x.begin(0);
            s.is("begun", x.state(0), OPEN);
            x.finish(0);
            s.is("finished", x.state(0), DONE);
        });
        s.test("`permit`: its number", () -> {
            s.is("the first", Offices.full().state(0), OPEN);
            s.is("the last", Offices.full().state(39), GRANTED);
        });
        s.test("Returns GRANTED, REFUSED, OPEN, DONE or VOID.", () -> {
            PermitWeave x = Offices.busy();
            int[] due = {DONE, OPEN, GRANTED, GRANTED, REFUSED, VOID, VOID, OPEN};
            for (int permit = 0; permit < due.length; permit++) {
                s.is("state(" + permit + ")", x.state(permit), due[permit]);
            }
        });
        s.test("Throws `IndexOutOfBoundsException` if there is no such permit", () ->
            s.refusesPermits("state", (x, wrong) -> x.state(wrong)));
    }

    private void cause() {
        s.under("Promise 15: cause");
        s.test("Returns why a permit is REFUSED.", () -> {
            PermitWeave x = Offices.busy();
            s.is("another opening in the season", x.cause(4), PermitWeave.TWICE);
        });
        s.test("`permit`: its number", () -> {
            PermitWeave x = fortyRefused();
            s.is("the first", x.cause(0), PermitWeave.LATE);
            s.is("the last", x.cause(39), PermitWeave.LATE);
        });
        s.test("Returns LATE, CHAIN, LONG or TWICE; NONE if it is not REFUSED.", () -> {
            PermitWeave x = townOfOne();
            s.is("LATE", x.cause(x.apply(0, 0, 1, 1, NONE, false)), PermitWeave.LATE);
            s.is("CHAIN", x.cause(x.apply(0, 0, 10, 1, 0, false)), PermitWeave.CHAIN);
            s.is("LONG", x.cause(x.apply(0, 0, 14, 40, NONE, false)), PermitWeave.LONG);
            s.is("TWICE", x.cause(x.apply(0, 0, 15, 1, NONE, false)), PermitWeave.TWICE);
            x = Offices.busy();
            for (int permit : new int[] {0, 1, 2, 3, 5, 6, 7}) {
                s.is("DONE, OPEN, GRANTED or VOID " + permit, x.cause(permit), NONE);
            }
        });
        s.test("Throws `IndexOutOfBoundsException` if there is no such permit", () ->
            s.refusesPermits("cause", (x, wrong) -> x.cause(wrong)));
    }

    /** The permits 0 and 1 are put together from 6 to 20; 2 and 3 are REFUSED, of lanes 0 and 1. */
    private static PermitWeave twoTogether() {
        PermitWeave x = townOfOne();
        x.apply(1, 0, 6, 14, NONE, false);
        x.apply(2, 0, 100, 7, NONE, false);
        x.apply(3, 1, 1, 40, NONE, false);
        return x;
    }

    private void from() {
        s.under("Promise 16: from");
        s.test("Returns the first hour of a permit.", () -> s.is("from", townOfOne().from(0), 10));
        s.test("`permit`: its number", () -> {
            s.is("the first", Offices.full().from(0), 4900);
            s.is("the last", fortyInAChain().from(39), 39);
        });
        s.test("Returns the hour, that of its opening; if it is REFUSED, as it was applied for.", () -> {
            PermitWeave x = twoTogether();
            s.is("of its opening", x.from(0), 6);
            s.is("of the same opening", x.from(1), 6);
            s.is("REFUSED", x.from(2), 100);
            s.is("REFUSED as LATE", x.from(3), 1);
            x.withdraw(1);
            s.is("the opening keeps its hours", x.from(0), 6);
            s.is("VOID, that of its opening", x.from(1), 6);
            x.apply(0, 0, 4, 3, NONE, false);
            s.is("the opening grows", x.from(0), 4);
            s.is("VOID, that of its opening now", x.from(1), 4);
        });
        s.test("Throws `IndexOutOfBoundsException` if there is no such permit", () ->
            s.refusesPermits("from", (x, wrong) -> x.from(wrong)));
    }

    private void end() {
        s.under("Promise 17: end");
        s.test("Returns the end of the hours of a permit.", () -> s.is("end", townOfOne().end(0), 15));
        s.test("`permit`: its number", () -> {
            s.is("the first", Offices.full().end(0), 4940);
            s.is("the last", fortyInAChain().end(39), 40);
        });
        s.test("Returns the hour, that of its opening; if it is REFUSED, as it was applied for.", () -> {
            PermitWeave x = twoTogether();
            s.is("of its opening", x.end(0), 20);
            s.is("of the same opening", x.end(1), 20);
            s.is("REFUSED", x.end(2), 107);
            s.is("REFUSED as LATE", x.end(3), 41);
            x.withdraw(1);
            s.is("the opening keeps its hours", x.end(0), 20);
            s.is("VOID, that of its opening", x.end(1), 20);
            x.apply(0, 0, 19, 5, NONE, false);
            s.is("the opening grows", x.end(0), 24);
            s.is("VOID, that of its opening now", x.end(1), 24);
        });
        s.test("Throws `IndexOutOfBoundsException` if there is no such permit", () ->
            s.refusesPermits("end", (x, wrong) -> x.end(wrong)));
    }

    private static PermitWeave fortyTogether() {
        PermitWeave x = Offices.town();
        for (int permit = 0; permit < 40; permit++) {
            x.apply(0, 0, 10, 1, NONE, false);
        }
        return x;
    }

    private void together() {
        s.under("Promise 18: together");
        s.test("Returns the permits that are put together with a permit.", () -> {
            PermitWeave x = twoTogether();
            s.is("of the first", x.together(0), 0b11);
            s.is("of the second", x.together(1), 0b11);
        });
        s.test("`permit`: its number", () -> {
            PermitWeave x = Offices.full();
            s.is("the first", x.together(0), 1);
            s.is("the last", x.together(39), 1L << 39);
        });
        s.test("Returns those of its opening that are not VOID, as a set: bit k for the permit k; 0 if it is "
                + "REFUSED.", () -> {
            s.is("alone", townOfOne().together(0), 1);
            s.is("all 40", fortyTogether().together(39), (1L << 40) - 1);
            PermitWeave x = twoTogether();
            s.is("REFUSED", x.together(2), 0);
            x.begin(0);
            s.is("OPEN and GRANTED", x.together(1), 0b11);
            x.finish(0);
            s.is("DONE and GRANTED", x.together(1), 0b11);
            x.withdraw(1);
            s.is("DONE and VOID", x.together(0), 0b01);
            s.is("of the VOID one", x.together(1), 0b01);
            PermitWeave y = townOfOne();
            y.withdraw(0);
            s.is("VOID and alone", y.together(0), 0);
            PermitWeave z = fortyTogether();
            z.withdraw(0);
            z.withdraw(39);
            s.is("38 of 40", z.together(20), (1L << 39) - 2);
        });
        s.test("Throws `IndexOutOfBoundsException` if there is no such permit", () ->
            s.refusesPermits("together", (x, wrong) -> x.together(wrong)));
    }

    private void openings() {
        s.under("Promise 19: openings");
        s.test("Returns how many openings of a lane there are whose first hour is of a season.", () -> {
            PermitWeave x = Offices.town();
            s.is("none yet", x.openings(0, 0), 0);
            x.apply(0, 0, 499, 30, NONE, false);
            s.is("its first hour is of the season 0", x.openings(0, 0), 1);
            s.is("its last one of the season 1", x.openings(0, 1), 0);
            x.apply(0, 0, 500, 1, NONE, true);
            s.is("an urgent one besides", x.openings(0, 1), 1);
            s.is("another lane", x.openings(1, 0), 0);
            x.apply(0, 0, 480, 1, NONE, false);
            s.is("a REFUSED one opens nothing", x.openings(0, 0), 1);
            x.apply(0, 0, 498, 2, NONE, false);
            s.is("one that is put together opens nothing", x.openings(0, 0), 1);
            x.withdraw(0);
            s.is("one of two is VOID", x.openings(0, 0), 1);
            x.withdraw(3);
            s.is("both are VOID", x.openings(0, 0), 0);
        });
        s.test("`lane`: its number", () -> {
            PermitWeave x = Offices.full();
            s.is("the first", x.openings(0, 9), 2);
            s.is("with one VOID", x.openings(20, 9), 0);
            s.is("the last", x.openings(23, 9), 1);
        });
        s.test("`season`: 0 to 10", () -> {
            PermitWeave x = Offices.town();
            for (int from : new int[] {0, 500, 999, 4499, 4500, 4900}) {
                x.apply(0, 0, from, 40, NONE, true);
            }
            int[] due = {1, 2, 0, 0, 0, 0, 0, 0, 1, 2, 0};
            for (int season = 0; season <= 10; season++) {
                s.is("openings(0, " + season + ")", x.openings(0, season), due[season]);
            }
            s.refuses(ARGUMENT, "season -1", Offices::town, y -> y.openings(0, -1));
            s.refuses(ARGUMENT, "season 11", Offices::town, y -> y.openings(0, 11));
        });
        s.test("Returns how many.", () -> {
            PermitWeave x = Offices.town();
            for (int permit = 0; permit < 40; permit++) {
                s.is("before", x.openings(0, 0), permit);
                x.apply(0, 0, 10, 1, NONE, true);
            }
            s.is("all 40", x.openings(0, 0), 40);
        });
        s.test("Throws `IndexOutOfBoundsException` if there is no such lane", () -> {
            s.refusesEach(BOUNDS, "lane", NO_LANES_OF_THE_TOWN, Offices::town, (x, wrong) -> x.openings(wrong, 0));
            s.refusesEach(BOUNDS, "lane, and season -1", NO_LANES_OF_THE_TOWN, Offices::town,
                    (x, wrong) -> x.openings(wrong, -1));
            s.refusesEach(BOUNDS, "lane, and season 11", Sentences.beside(0, 23), Offices::full,
                    (x, wrong) -> x.openings(wrong, 11));
            s.refuses(BOUNDS, "lane of none", PermitWeave::new, x -> x.openings(0, 10));
        });
        s.test("Throws `IllegalArgumentException` if season is out of its range", () -> {
            s.refusesEach(ARGUMENT, "season", NO_SEASONS, Offices::busy, (x, wrong) -> x.openings(0, wrong));
            s.refusesEach(ARGUMENT, "season", NO_SEASONS, Offices::full, (x, wrong) -> x.openings(23, wrong));
        });
    }

    private void fee() {
        s.under("Promise 20: fee");
        s.test("Returns the fee of a permit.", () -> s.is("of 5 hours", townOfOne().fee(0), 1500));
        s.test("`permit`: its number", () -> {
            PermitWeave x = Offices.full();
            s.is("the first", x.fee(0), 5000);
            s.is("the last", x.fee(39), 5000);
        });
        s.test("Returns its share of the fee of its opening; 0 if it is REFUSED or VOID.", () -> {
            PermitWeave x = twoTogether();
            s.is("a half of 14 hours", x.fee(0), 1200);
            s.is("the other half", x.fee(1), 1200);
            s.is("REFUSED", x.fee(2), 0);
            x.withdraw(0);
            s.is("VOID", x.fee(0), 0);
            s.is("the one that is left", x.fee(1), 2400);
            x.begin(1);
            s.is("OPEN", x.fee(1), 2400);
            x.finish(1);
            s.is("DONE", x.fee(1), 2400);
            PermitWeave y = townOfOne();
            y.withdraw(0);
            s.is("VOID and alone", y.fee(0), 0);
        });
        s.test("Throws `IndexOutOfBoundsException` if there is no such permit", () ->
            s.refusesPermits("fee", (x, wrong) -> x.fee(wrong)));
    }
}
