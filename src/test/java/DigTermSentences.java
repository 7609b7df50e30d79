/** The terms of digs, hours, complaints and fines. */
final class DigTermSentences {
    private static final int NONE = PermitWeave.NONE;
    private static final int GRANTED = PermitWeave.GRANTED, REFUSED = PermitWeave.REFUSED, OPEN = PermitWeave.OPEN,
            DONE = PermitWeave.DONE, VOID = PermitWeave.VOID;
    private static final String STATE = Sentences.STATE;

    private final Sentences s;

    private DigTermSentences(Sentences s) {
        this.s = s;
    }

    static void tell(Sentences s) {
        DigTermSentences terms = new DigTermSentences(s);
        s.under("Digs");
        terms.begun();
        terms.needed();
        terms.withdrawn();
        s.withoutEdge("Hours, complaints, fines");
        terms.costs();
        terms.costsBelowZero();
        terms.minutes();
        terms.besideItsHours();
        terms.damage();
        terms.pointsForDigs();
        terms.fines();
        terms.pointsAreForgiven();
        terms.complaints();
    }

    private void begun() {
        s.test("A permit that is GRANTED can be begun, early or late: it is OPEN then, and its lane is closed.", () -> {
            for (int now : new int[] {0, 9, 10, 14, 15, 4999, 5000}) {
                PermitWeave x = Offices.town();
                x.apply(0, 2, 10, 5, NONE, false);
                Offices.passTo(x, 0, now);
                s.is("not yet, at " + now, x.isClosed(2), false);
                s.is("begin at " + now, x.begin(0), 10 - now);
                s.is("state", x.state(0), OPEN);
                s.is("closed", x.isClosed(2), true);
            }
        });
        s.test("When it is finished, it is DONE.", () -> {
            PermitWeave x = Offices.town();
            Offices.dig(x, 0, 0, 10, 5);
            x.finish(0);
            s.is("at once", x.state(0), DONE);
            Offices.dig(x, 0, 0, 10, 5);
            Offices.passTo(x, 0, 5000);
            s.is("OPEN to the end", x.state(1), OPEN);
            x.finish(1);
            s.is("at the end", x.state(1), DONE);
        });
        s.test("A lane is closed as long as a permit for it is OPEN.", () -> {
            PermitWeave x = Offices.town();
            x.apply(0, 1, 10, 5, NONE, false);
            x.apply(0, 1, 12, 5, NONE, false);
            s.is("GRANTED ones", x.isClosed(1), false);
            x.begin(0);
            s.is("the first is OPEN", x.isClosed(1), true);
            x.begin(1);
            x.finish(0);
            s.is("the second is OPEN yet", x.isClosed(1), true);
            x.finish(1);
            s.is("both are DONE", x.isClosed(1), false);
            Offices.dig(x, 0, 1, 10, 5);
            s.is("closed again", x.isClosed(1), true);
            s.is("no other lane", x.isClosed(0) || x.isClosed(2), false);
        });
    }

    private static PermitWeave chainOfThree() {
        PermitWeave x = Offices.town();
        x.apply(0, 0, 10, 5, NONE, false);
        x.apply(0, 1, 15, 5, 0, false);
        x.apply(0, 2, 20, 5, 1, false);
        return x;
    }

    private void needed() {
        s.test("A permit that needs another one can be begun only if that is DONE.", () -> {
            s.refuses(STATE, "that is GRANTED", DigTermSentences::chainOfThree, x -> x.begin(1));
            s.refuses(STATE, "that is OPEN", () -> {
                PermitWeave x = chainOfThree();
                x.begin(0);
                return x;
            }, x -> x.begin(1));
            PermitWeave x = chainOfThree();
            s.is("the one that needs none", x.begin(0), 10);
            x.finish(0);
            s.is("that is DONE, ahead of its end", x.begin(1), 15);
            s.is("the next is not DONE", Due.thrownBy(() -> x.begin(2)), STATE);
            x.finish(1);
            s.is("now it is", x.begin(2), 20);
        });
    }

    private void states(String what, PermitWeave x, int... due) {
        for (int permit = 0; permit < due.length; permit++) {
            s.is(what + ", state(" + permit + ")", x.state(permit), due[permit]);
        }
    }

    private void withdrawn() {
        s.test("A permit that is GRANTED can be withdrawn: it is VOID; and so are all GRANTED ones that need it, and "
                + "all GRANTED ones that need these, and so on (none of which can have been begun).", () -> {
            PermitWeave x = chainOfThree();
            s.is("the last", x.withdraw(2), 1);
            states("the last", x, GRANTED, GRANTED, VOID);
            x = chainOfThree();
            s.is("the middle", x.withdraw(1), 2);
            states("the middle", x, GRANTED, VOID, VOID);
            x = chainOfThree();
            s.is("the first", x.withdraw(0), 3);
            states("the first", x, VOID, VOID, VOID);
            x = chainOfThree();
            x.apply(0, 3, 100, 5, 0, false);
            x.apply(0, 4, 14, 5, 0, false);
            x.apply(0, 4, 100, 5, NONE, false);
            x.apply(0, 5, 110, 5, 3, true);
            s.is("the first of a tree", x.withdraw(0), 5);
            states("of a tree", x, VOID, VOID, VOID, VOID, REFUSED, GRANTED, VOID);
            x = chainOfThree();
            x.begin(0);
            x.finish(0);
            s.is("one that needs a DONE one", x.withdraw(1), 2);
            states("of DONE", x, DONE, VOID, VOID);
        });
    }

    private void costs() {
        s.test("What a permit that is OPEN costs a line is the detour of the line, less the detour that it would have "
                + "if the lane of this permit was not closed", () -> {
            PermitWeave x = Offices.street();
            Offices.dig(x, 0, 0, 50, 1);
            Offices.dig(x, 1, 1, 50, 1);
            x.pass(1);
            s.is("60 less 0", x.fine(0), 2 * 10 * 60);
            s.is("60 less 3", x.fine(1), 2 * 10 * 57);
            x.finish(1);
            x.pass(1);
            s.is("3 less 0", x.fine(0), 2 * 10 * 63);
            PermitWeave slow = Offices.street();
            Offices.dig(slow, 0, 1, 50, 1);
            slow.pass(1);
            s.is("0 less 0", slow.fine(0) + slow.points(0) + slow.complain(0), 0);
        });
        s.test("it is 0 if another permit for that lane is OPEN, too", () -> {
            PermitWeave x = Offices.street();
            Offices.dig(x, 0, 0, 50, 1);
            Offices.dig(x, 1, 0, 50, 1);
            x.pass(1);
            s.is("both cost 0", x.fine(0) + x.fine(1) + x.points(0) + x.points(1), 0);
            s.is("nobody is blamed", x.complain(0), 0);
            x.finish(0);
            x.pass(1);
            s.is("the other is DONE", x.fine(1), 60);
            s.is("and is not OPEN itself", x.fine(0), 0);
            PermitWeave same = Offices.street();
            same.apply(0, 0, 50, 5, NONE, false);
            same.apply(0, 0, 51, 5, NONE, false);
            same.begin(0);
            same.pass(1);
            s.is("another that is GRANTED", same.fine(0), 60);
            same.begin(1);
            same.pass(1);
            s.is("another of the same opening and applicant", same.fines(0), 60);
        });
    }

    private void costsBelowZero() {
        s.test("which may be below 0", () -> {
            PermitWeave x = Offices.ring();
            Offices.dig(x, 0, 0, 50, 1);
            s.is("round by 90", x.detour(0), 89);
            Offices.dig(x, 1, 2, 50, 1);
            s.is("60 more than straight", x.detour(0), 60);
            x.pass(1);
            s.is("60 less 0", x.fine(0), 2 * 10 * 60);
            s.is("60 less 89, no fine", x.fine(1), 0);
            s.is("no point", x.points(1), 0);
            s.is("one is blamed", x.complain(0), 1);
            s.is("not that one", x.points(1), 0);
            s.is("as the one alone", x.fines(0) + x.fines(1), 1200);
            PermitWeave two = ringBeside(10, 5);
            s.is("10 times -29 is taken from 5 times 60", two.fine(1), 20);
            s.is("the line that it costs -29 blames the other alone", two.complain(0), 1);
            s.is("the line that it costs 60 blames both", two.complain(1), 2);
            s.is("a point for the hour and one for a complaint", two.points(1), 2);
        });
    }

    /** An hour later; the permit 1 costs the ring's line, of some passengers, -29, and another line, of others, 60. */
    private static PermitWeave ringBeside(int straight, int others) {
        PermitWeave x = Offices.ring(straight);
        x.line(2, others);
        x.stop(1, 3);
        Offices.dig(x, 0, 0, 50, 1);
        Offices.dig(x, 1, 2, 50, 1);
        x.pass(1);
        return x;
    }

    private void minutes() {
        s.test("When an hour passes: each line counts its detour times its passengers, as passengers' minutes.", () -> {
            PermitWeave x = Offices.street();
            x.line(1, 500);
            x.stop(1, 0);
            x.stop(1, 1);
            x.line(0, 0);
            x.stop(2, 1);
            Offices.dig(x, 0, 0, 0, 40);
            s.is("no hour yet", x.minutes(0) + x.minutes(1), 0);
            x.pass(1);
            s.is("3 minutes of 10, in the hours of the dig as well", x.minutes(0), 30);
            s.is("6 minutes of 500", x.minutes(1), 3000);
            s.is("3 minutes of none", x.minutes(2), 0);
            x.pass(199);
            s.is("200 hours", x.minutes(1), 600000);
            x.finish(0);
            x.pass(200);
            s.is("no detour", x.minutes(1), 600000);
        });
    }

    private void besideItsHours() {
        s.test("A permit that is OPEN is beside its hours, if the hour that passes is none of them", () -> {
            PermitWeave x = Offices.street();
            x.apply(0, 0, 3, 2, NONE, false);
            x.begin(0);
            int[] hoursBeside = {1, 2, 3, 3, 3, 4, 5};
            for (int hour = 0; hour < hoursBeside.length; hour++) {
                x.pass(1);
                s.is("hours beside, when " + hour + " has passed", x.fine(0), 60 * hoursBeside[hour]);
                s.is("points", x.points(0), hoursBeside[hour]);
            }
            PermitWeave grown = Offices.street();
            grown.apply(0, 0, 5, 2, NONE, false);
            grown.apply(1, 0, 3, 3, NONE, false);
            grown.apply(1, 0, 6, 3, NONE, false);
            grown.withdraw(1);
            grown.withdraw(2);
            grown.begin(0);
            grown.pass(20);
            s.is("3 ahead and 11 behind the hours of its opening", grown.fine(0), 60 * 14);
            PermitWeave late = Offices.street();
            late.apply(0, 0, 3, 2, NONE, false);
            late.begin(0);
            late.pass(1);
            late.apply(1, 0, 4, 9, NONE, false);
            late.pass(12);
            s.is("3 ahead, and none of those that came to its opening", late.fine(0), 60 * 3);
            late.pass(1);
            s.is("from the new end on", late.fine(0), 60 * 4);
        });
    }

    private void damage() {
        s.test("then, if what it costs all lines, each times its passengers, all together, is above 0, that is added "
                + "to its damage, 0 at first", () -> {
            PermitWeave x = Offices.street();
            x.line(1, 20);
            x.stop(1, 0);
            x.line(0, 500);
            Offices.dig(x, 0, 0, 50, 1);
            s.is("at first", x.fine(0), 0);
            x.pass(1);
            s.is("3 minutes of 30, in two lines of three", x.fine(0), 2 * 90);
            x.pass(1);
            s.is("and again", x.fine(0), 2 * 180);
            PermitWeave least = new PermitWeave();
            least.lane(0, 1, 1);
            least.lane(0, 1, 2);
            least.line(0, 1);
            least.stop(0, 1);
            Offices.dig(least, 0, 0, 50, 1);
            least.pass(1);
            s.is("a minute of one passenger is above 0", least.fine(0), 2);
            s.is("its point", least.points(0), 1);
            PermitWeave empty = Offices.street(0);
            Offices.dig(empty, 0, 0, 50, 1);
            empty.pass(1);
            s.is("without passengers it is 0", empty.fine(0) + empty.points(0), 0);
            s.is("60 times -29 and 28 times 60 are below 0", ringBeside(60, 28).fine(1), 0);
            PermitWeave even = ringBeside(60, 29);
            s.is("60 times -29 and 29 times 60 are 0", even.fine(1), 0);
            s.is("no point for 0", even.points(1), 0);
            PermitWeave above = ringBeside(60, 30);
            s.is("60 times -29 and 30 times 60 are 60", above.fine(1), 120);
            s.is("a point for that", above.points(1), 1);
        });
    }

    private void pointsForDigs() {
        s.test("and its applicant gets a point, one for each such permit", () -> {
            PermitWeave x = Offices.street();
            Offices.dig(x, 3, 0, 50, 1);
            Offices.dig(x, 3, 1, 50, 1);
            Offices.dig(x, 3, 1, 0, 40);
            x.pass(1);
            s.is("one costs, two share a lane", x.points(3), 1);
            x.finish(2);
            x.pass(1);
            s.is("two cost", x.points(3), 3);
            x.finish(0);
            x.pass(1);
            s.is("the slower lane costs nothing", x.points(3), 3);
            s.is("no other gets any", x.points(0) + x.points(2) + x.points(4), 0);
        });
    }

    private void fines() {
        s.test("The fine of a permit is 2 for each minute of its damage.", () -> {
            PermitWeave x = Offices.street(1);
            Offices.dig(x, 0, 0, 50, 1);
            s.is("none", x.fine(0), 0);
            for (int hours = 1; hours <= 5; hours++) {
                x.pass(1);
                s.is("of " + 3 * hours, x.fine(0), 6 * hours);
                s.is("of the applicant", x.fines(0), 6 * hours);
            }
            s.is("when it is finished", x.finish(0), 30);
        });
    }

    private void pointsAreForgiven() {
        s.test("Then now is the next hour; if that is divisible by 100, all points that are above 0 become 1 "
                + "less.", () -> {
            PermitWeave x = Offices.street();
            Offices.dig(x, 0, 0, 0, 40);
            x.complain(0);
            x.finish(0);
            Offices.dig(x, 5, 0, 0, 40);
            x.complain(0);
            x.complain(0);
            x.finish(1);
            int[] hours = {1, 98, 1, 1, 98, 1, 100};
            int[] first = {1, 1, 0, 0, 0, 0, 0};
            int[] second = {2, 2, 1, 1, 1, 0, 0};
            for (int k = 0; k < hours.length; k++) {
                int now = x.pass(hours[k]);
                s.is("one point, at " + now, x.points(0), first[k]);
                s.is("two points, at " + now, x.points(5), second[k]);
                s.is("no points, at " + now, x.points(1), 0);
            }
            PermitWeave dug = Offices.street();
            Offices.passTo(dug, 0, 99);
            Offices.dig(dug, 0, 0, 4900, 1);
            dug.pass(1);
            s.is("first the point for the hour 99, then one less at 100", dug.points(0), 0);
            dug.pass(1);
            s.is("the point for the hour 100 stays", dug.points(0), 1);
            Offices.passTo(dug, 101, 4999);
            long before = dug.points(0);
            dug.finish(0);
            dug.pass(1);
            s.is("at 5000, too", dug.points(0), before - 1);
            s.is("fines are not forgiven", dug.fine(0), 60 * (4999 - 99 - 1));
        });
    }

    private void complaints() {
        s.test("When passengers of a line complain, each applicant with a permit that is OPEN and costs this line more "
                + "than 0 gets a point, one for all such permits together.", () -> {
            PermitWeave x = Offices.street();
            x.line(1, 0);
            x.line(0, 0);
            x.stop(2, 1);
            s.is("no dig", x.complain(0), 0);
            Offices.dig(x, 2, 1, 0, 40);
            s.is("a dig that costs 0", x.complain(0), 0);
            Offices.dig(x, 2, 0, 0, 40);
            s.is("two digs of one applicant", x.complain(0), 1);
            s.is("one point for both", x.points(2), 1);
            s.is("a line that has no leg", x.complain(1), 0);
            s.is("a line without passengers", x.complain(2), 1);
            s.is("a point for that", x.points(2), 2);
            x.apply(3, 0, 100, 5, NONE, false);
            s.is("a GRANTED one is not blamed", x.complain(0) + 10 * x.points(3), 1);
            x.finish(1);
            s.is("nor a DONE one", x.complain(0), 0);
            Offices.dig(x, 4, 0, 0, 40);
            s.is("two applicants", x.complain(0), 2);
            s.is("the one", x.points(2), 4);
            s.is("and the other", x.points(4), 1);
            PermitWeave least = Offices.ring();
            least.lane(0, 1, 2);
            Offices.dig(least, 5, 0, 0, 40);
            s.is("one minute is more than 0", least.complain(0), 1);
        });
    }
}
