/** Each promise of the document: ordinary inputs, the edges that it names, and wrong inputs. */
public final class PromisesTest {
    private static final int NONE = PermitWeave.NONE;
    private static final int LOWEST = Integer.MIN_VALUE, HIGHEST = Integer.MAX_VALUE;
    private static final Due due = new Due("PromisesTest");

    private static void finishAfter(PermitWeave x, int permit, int hours) {
        x.pass(hours);
        x.finish(permit);
    }

    private static void promise1NewObject() {
        due.throwsBounds("isClosed(0) of a new object", () -> new PermitWeave().isClosed(0));
        due.throwsBounds("openings(0, 0) of a new object", () -> new PermitWeave().openings(0, 0));
        due.throwsBounds("detour(0) of a new object", () -> new PermitWeave().detour(0));
        due.throwsBounds("state(0) of a new object", () -> new PermitWeave().state(0));
        PermitWeave x = new PermitWeave();
        due.is("way between others", x.way(0, 1), NONE);
        due.is("points at first", x.points(5), 0);
        due.is("fines at first", x.fines(0), 0);
        due.is("the hour at first, and 1", x.pass(1), 1);
        PermitWeave[] two = {new PermitWeave(), new PermitWeave()};
        two[0].lane(0, 1, 1);
        due.is("an object leaves the other alone", two[1].way(0, 1), NONE);
        due.is("NONE", NONE, -1);
        due.is("states", PermitWeave.GRANTED + 10 * PermitWeave.REFUSED + 100 * PermitWeave.OPEN
                + 1000 * PermitWeave.DONE + 10000 * PermitWeave.VOID, 43210);
        due.is("causes", PermitWeave.LATE + 10 * PermitWeave.CHAIN + 100 * PermitWeave.LONG
                + 1000 * PermitWeave.TWICE, 3210);
    }

    private static void promise2Lane() {
        PermitWeave x = new PermitWeave();
        for (int wrong : new int[] {LOWEST, -1, 10, HIGHEST}) {
            due.throwsBounds("lane from junction " + wrong, () -> x.lane(wrong, 1, 5));
            due.throwsBounds("lane to junction " + wrong, () -> x.lane(1, wrong, 5));
            due.throwsBounds("no junction comes before the minutes", () -> x.lane(wrong, wrong, 0));
        }
        due.throwsArgument("lane to its own junction", () -> x.lane(3, 3, 5));
        for (int wrong : new int[] {LOWEST, -1, 0, 31, HIGHEST}) {
            due.throwsArgument("lane of minutes " + wrong, () -> x.lane(0, 1, wrong));
        }
        due.is("none of these is added", x.way(0, 1), NONE);
        due.is("first lane", x.lane(0, 9, 30), 0);
        due.is("second lane", x.lane(9, 1, 1), 1);
        for (int k = 2; k < 24; k++) {
            due.is("lane", x.lane(0, 9, 30), k);
        }
        due.throwsState("the 25th lane", () -> x.lane(0, 9, 30));
        due.throwsArgument("the range comes before the count", () -> x.lane(0, 0, 30));
        due.throwsBounds("the junction comes before the count", () -> x.lane(0, 10, 30));
        due.is("the way over two lanes, both ways", x.way(1, 0), 31);
        due.is("the last lane is one", x.isClosed(23), false);
        PermitWeave late = new PermitWeave();
        late.pass(1);
        due.throwsState("lane at the hour 1", () -> late.lane(0, 1, 5));
        due.throwsArgument("the minutes come before the hour", () -> late.lane(0, 1, 31));
    }

    private static void promise3Line() {
        PermitWeave x = new PermitWeave();
        for (int wrong : new int[] {LOWEST, -1, 10, HIGHEST}) {
            due.throwsBounds("line from junction " + wrong, () -> x.line(wrong, 5));
            due.throwsBounds("no junction comes before the passengers", () -> x.line(wrong, -1));
        }
        for (int wrong : new int[] {LOWEST, -1, 501, HIGHEST}) {
            due.throwsArgument("line of passengers " + wrong, () -> x.line(0, wrong));
        }
        due.is("a line", x.line(9, 0), 0);
        due.is("a line", x.line(0, 500), 1);
        due.is("a line of one stop has no detour", x.detour(1), 0);
        for (int k = 2; k < 6; k++) {
            due.is("a line", x.line(0, 1), k);
        }
        due.throwsState("the 7th line", () -> x.line(0, 1));
        due.throwsArgument("the range comes before the count", () -> x.line(0, 501));
        PermitWeave late = new PermitWeave();
        late.pass(1);
        due.throwsState("line at the hour 1", () -> late.line(0, 1));
        due.throwsArgument("the range comes before the hour", () -> late.line(0, 501));
    }

    private static void promise4Stop() {
        PermitWeave x = Offices.town();
        x.line(0, 1);
        for (int wrong : new int[] {LOWEST, -1, 1, HIGHEST}) {
            due.throwsBounds("stop of line " + wrong, () -> x.stop(wrong, 0));
        }
        for (int wrong : new int[] {LOWEST, -1, 10, HIGHEST}) {
            due.throwsBounds("stop at junction " + wrong, () -> x.stop(0, wrong));
        }
        due.throwsArgument("stop where it stands", () -> x.stop(0, 0));
        due.throwsState("stop where no way leads", () -> x.stop(0, 9));
        due.is("stop", x.stop(0, 4), 2);
        due.throwsArgument("stop where it stands", () -> x.stop(0, 4));
        Offices.dig(x, 0, 5, 10, 1);
        due.is("a closed lane leads to a stop", x.stop(0, 0), 3);
        due.is("stop again", x.stop(0, 4), 4);
        x.stop(0, 1);
        due.is("stop", x.stop(0, 2), 6);
        due.throwsState("the 7th stop", () -> x.stop(0, 1));
        due.throwsArgument("the last stop comes before the count", () -> x.stop(0, 2));
        PermitWeave late = Offices.town();
        late.line(0, 1);
        late.pass(1);
        due.throwsState("stop at the hour 1", () -> late.stop(0, 1));
        due.throwsArgument("the last stop comes before the hour", () -> late.stop(0, 0));
        due.throwsBounds("the junction comes before the hour", () -> late.stop(0, 10));
    }

    private static void promise5Way() {
        PermitWeave x = Offices.town();
        for (int wrong : new int[] {LOWEST, -1, 10, HIGHEST}) {
            due.throwsBounds("way from " + wrong, () -> x.way(wrong, 0));
            due.throwsBounds("way to " + wrong, () -> x.way(0, wrong));
        }
        due.is("to itself", x.way(7, 7), 0);
        due.is("over four lanes", x.way(0, 4), 16);
        due.is("and back", x.way(4, 0), 16);
        due.is("no way", x.way(0, 5), NONE);
        int first = Offices.dig(x, 0, 1, 0, 1);
        due.is("round a closed lane", x.way(0, 3), 17);
        due.is("to a junction beside it", x.way(0, 2), 22);
        int second = Offices.dig(x, 0, 0, 0, 1);
        due.is("round two", x.way(0, 3), 20);
        Offices.dig(x, 0, 5, 0, 1);
        due.is("no way over lanes that are not closed", x.way(0, 4), NONE);
        x.finish(first);
        x.finish(second);
        due.is("as before", x.way(0, 3), 15);
        PermitWeave street = Offices.street();
        due.is("the quicker of two lanes", street.way(1, 0), 4);
        street.lane(1, 0, 2);
        due.is("the quickest of three", street.way(1, 0), 2);
        PermitWeave row = new PermitWeave();
        for (int k = 0; k < 9; k++) {
            row.lane(9 - k, 8 - k, 30);
        }
        due.is("the longest way", row.way(0, 9), 270);
    }

    private static void promise6IsClosed() {
        PermitWeave x = Offices.street();
        for (int wrong : new int[] {LOWEST, -1, 2, HIGHEST}) {
            due.throwsBounds("isClosed of lane " + wrong, () -> x.isClosed(wrong));
        }
        x.apply(0, 1, 5, 2, NONE, true);
        due.is("GRANTED closes nothing", x.isClosed(1), false);
        x.begin(0);
        due.is("OPEN closes", x.isClosed(1), true);
        due.is("its lane alone", x.isClosed(0), false);
        int other = Offices.dig(x, 1, 1, 5, 2);
        x.finish(0);
        due.is("one of two is OPEN yet", x.isClosed(1), true);
        x.finish(other);
        due.is("both are DONE", x.isClosed(1), false);
    }

    private static void promise7Detour() {
        PermitWeave x = Offices.town();
        x.line(0, 3);
        x.stop(0, 3);
        x.stop(0, 4);
        x.stop(0, 3);
        for (int wrong : new int[] {LOWEST, -1, 1, HIGHEST}) {
            due.throwsBounds("detour of line " + wrong, () -> x.detour(wrong));
        }
        due.is("no lane is closed", x.detour(0), 0);
        int first = Offices.dig(x, 0, 2, 0, 1);
        due.is("one leg goes round", x.detour(0), 2);
        Offices.dig(x, 0, 5, 0, 1);
        due.is("two legs have no way", x.detour(0), 122);
        x.finish(first);
        due.is("the first goes straight again", x.detour(0), 120);
        PermitWeave wide = Offices.ring();
        Offices.dig(wide, 0, 0, 0, 1);
        due.is("a way round may take more than 60 more", wide.detour(0), 89);
        Offices.dig(wide, 0, 1, 0, 1);
        due.is("60 more than over all lanes", wide.detour(0), 60);
        wide.lane(1, 0, 3);
        due.is("a lane that is added is a way round", wide.detour(0), 2);
    }

    private static void promise8Minutes() {
        PermitWeave x = Offices.street();
        for (int wrong : new int[] {LOWEST, -1, 1, HIGHEST}) {
            due.throwsBounds("minutes of line " + wrong, () -> x.minutes(wrong));
            due.throwsBounds("minutesAnew of line " + wrong, () -> x.minutesAnew(wrong));
        }
        due.is("none", x.minutes(0), 0);
        x.pass(3);
        due.is("no detour, no minutes", x.minutes(0), 0);
        int permit = Offices.dig(x, 0, 0, 3, 5);
        due.is("no hour has passed", x.minutes(0), 0);
        x.pass(2);
        due.is("2 hours, 3 minutes, 10 passengers", x.minutes(0), 60);
        x.finish(permit);
        x.pass(200);
        due.is("no more of them", x.minutes(0), 60);
        PermitWeave dear = dearest();
        due.is("above what an int holds", dear.minutes(0), 1200L * 500 * 5000);
        due.is("the same anew", dear.minutesAnew(0), 1200L * 500 * 5000);
    }

    private static PermitWeave dearest() {
        PermitWeave x = Offices.dearest();
        due.is("five legs of 240 more", x.detour(0), 1200);
        Offices.passTo(x, 0, 5000);
        return x;
    }

    private static void promise9MinutesAnew() {
        PermitWeave x = Offices.street();
        x.line(1, 7);
        x.stop(1, 0);
        due.is("none", x.minutesAnew(0), 0);
        int first = Offices.dig(x, 0, 0, 0, 2);
        due.is("no hour has passed", x.minutesAnew(0), 0);
        x.pass(2);
        int second = Offices.dig(x, 1, 1, 2, 5);
        x.pass(3);
        x.finish(first);
        x.pass(1);
        first = Offices.dig(x, 2, 0, 9, 1);
        x.finish(first);
        x.pass(4);
        x.finish(second);
        x.pass(10);
        due.is("2 hours of 3, 3 of 60", x.minutes(0), 10 * (2 * 3 + 3 * 60));
        due.is("the same anew", x.minutesAnew(0), 10 * (2 * 3 + 3 * 60));
        due.is("the other line anew", x.minutesAnew(1), 7 * (2 * 3 + 3 * 60));
        due.is("now the same again", x.minutesAnew(0), 1860);
        Offices.dig(x, 0, 0, 50, 2);
        due.is("a dig begun now has no hour yet", x.minutesAnew(0), 1860);
        due.is("nor has it here", x.minutes(0), 1860);
        due.is("the way is that of now afterwards", x.way(0, 1), 7);
        everyPermitIsBegunAndFinishedAlone();
    }

    private static void everyPermitIsBegunAndFinishedAlone() {
        PermitWeave x = Offices.street();
        long sum = 0;
        x.pass(1);
        for (int k = 0; k < 40; k++) {
            int permit = Offices.dig(x, 0, 0, 4900, 1);
            x.pass(2);
            x.finish(permit);
            x.pass(1);
            sum += 2 * 3 * 10;
        }
        due.is("40 digs, minutes", x.minutes(0), sum);
        due.is("40 digs, minutesAnew", x.minutesAnew(0), sum);
    }

    private static void promise10Apply() {
        PermitWeave x = Offices.town();
        for (int wrong : new int[] {LOWEST, -1, 6, HIGHEST}) {
            due.throwsBounds("applicant " + wrong, () -> x.apply(wrong, 0, 10, 1, NONE, false));
            due.throwsBounds("lane " + wrong, () -> x.apply(0, wrong, 10, 1, NONE, false));
        }
        for (int wrong : new int[] {LOWEST, -2, 0, HIGHEST}) {
            due.throwsBounds("needs " + wrong, () -> x.apply(0, 0, 10, 1, wrong, false));
            due.throwsBounds("needs before the hours " + wrong, () -> x.apply(0, 0, 10, 0, wrong, false));
        }
        for (int wrong : new int[] {LOWEST, -1, 4901, HIGHEST}) {
            due.throwsArgument("from " + wrong, () -> x.apply(0, 0, wrong, 1, NONE, true));
        }
        for (int wrong : new int[] {LOWEST, -1, 0, 41, HIGHEST}) {
            due.throwsArgument("hours " + wrong, () -> x.apply(0, 0, 10, wrong, NONE, true));
        }
        due.throwsBounds("none of these is a permit", () -> x.state(0));
        x.pass(10);
        due.throwsArgument("from an hour gone by", () -> x.apply(0, 0, 9, 1, NONE, true));
        due.is("from now, urgent", x.apply(0, 0, 10, 40, NONE, true), 0);
        due.is("of 4900, 40 hours", x.apply(5, 5, 4900, 40, 0, false), 1);
        due.throwsBounds("it can't need itself", () -> x.apply(0, 0, 10, 1, 2, true));
        for (int k = 2; k < 40; k++) {
            due.is("a permit", x.apply(0, 0, 10, 1, NONE, false), k);
        }
        due.throwsState("the 41st permit", () -> x.apply(0, 0, 10, 1, NONE, true));
        due.throwsArgument("the range comes before the count", () -> x.apply(0, 0, 9, 1, NONE, true));
        due.throwsBounds("the permit comes before the count", () -> x.apply(0, 0, 10, 1, 40, true));
        PermitWeave last = Offices.town();
        for (int k = 0; k < 25; k++) {
            last.pass(200);
        }
        due.throwsArgument("no from is left at the hour 5000", () -> last.apply(0, 0, 4900, 1, NONE, true));
    }

    private static int causeOf(PermitWeave x, int applicant, int lane, int from, int hours, int needs,
            boolean isUrgent) {
        int permit = x.apply(applicant, lane, from, hours, needs, isUrgent);
        int cause = x.cause(permit);
        due.is("state by the cause", x.state(permit), cause == NONE ? PermitWeave.GRANTED : PermitWeave.REFUSED);
        return cause;
    }

    private static void promise10Late() {
        PermitWeave x = Offices.street();
        x.pass(100);
        due.is("1 hour ahead", causeOf(x, 0, 0, 101, 1, NONE, false), PermitWeave.LATE);
        due.is("1 hour ahead, urgent", causeOf(x, 0, 0, 101, 1, NONE, true), NONE);
        due.is("2 hours ahead", causeOf(x, 0, 1, 102, 1, NONE, false), NONE);
        x.withdraw(2);
        Offices.dig(x, 1, 0, 4900, 1);
        x.complain(0);
        x.complain(0);
        due.is("notice of 2 points", causeOf(x, 1, 1, 107, 1, NONE, false), PermitWeave.LATE);
        due.is("another applicant's notice", causeOf(x, 0, 1, 102, 1, NONE, false), NONE);
        x.withdraw(5);
        due.is("notice of 2 points kept", causeOf(x, 1, 1, 108, 1, NONE, false), NONE);
        due.is("LATE comes before CHAIN", causeOf(x, 0, 1, 100, 1, 4, false), PermitWeave.LATE);
    }

    private static void promise10Chain() {
        PermitWeave x = Offices.town();
        x.apply(0, 0, 10, 5, NONE, false);
        due.is("from before its end", causeOf(x, 0, 1, 14, 1, 0, false), PermitWeave.CHAIN);
        due.is("from before its end, urgent", causeOf(x, 0, 1, 14, 1, 0, true), PermitWeave.CHAIN);
        due.is("from its end on", causeOf(x, 0, 1, 15, 1, 0, false), NONE);
        due.is("it needs a REFUSED one", causeOf(x, 0, 2, 100, 1, 1, true), PermitWeave.CHAIN);
        due.is("needing such a one again", causeOf(x, 0, 2, 100, 1, 4, true), PermitWeave.CHAIN);
        x.apply(0, 0, 14, 6, NONE, false);
        due.is("the end that its opening has now", causeOf(x, 0, 2, 19, 1, 0, true), PermitWeave.CHAIN);
        due.is("at that end", causeOf(x, 0, 2, 20, 1, 0, false), NONE);
        x.withdraw(6);
        due.is("the opening keeps its hours", causeOf(x, 0, 2, 19, 1, 0, true), PermitWeave.CHAIN);
        due.is("it needs a VOID one", causeOf(x, 0, 2, 100, 1, 6, true), PermitWeave.CHAIN);
        x.begin(0);
        x.finish(0);
        due.is("a DONE one keeps its hours", causeOf(x, 0, 2, 19, 1, 0, true), PermitWeave.CHAIN);
        due.is("a DONE one at its end", causeOf(x, 0, 3, 20, 1, 0, true), NONE);
        due.is("CHAIN comes before LONG", causeOf(x, 0, 0, 19, 40, 0, false), PermitWeave.CHAIN);
        due.is("CHAIN comes before TWICE", causeOf(x, 0, 0, 30, 1, 6, false), PermitWeave.CHAIN);
    }

    private static void promise10Long() {
        PermitWeave x = Offices.town();
        x.apply(0, 0, 20, 20, NONE, false);
        due.is("41 hours together", causeOf(x, 0, 0, 39, 22, NONE, false), PermitWeave.LONG);
        due.is("41 hours the other way", causeOf(x, 0, 0, 3, 37, NONE, false) , NONE);
        due.is("41 hours with what it became", causeOf(x, 0, 0, 39, 5, NONE, false), PermitWeave.LONG);
        due.is("40 hours with what it became", causeOf(x, 0, 0, 39, 4, NONE, false), NONE);
        due.is("urgent is never put together", causeOf(x, 0, 0, 39, 40, NONE, true), NONE);
        due.is("the hours", 100 * x.from(0) + x.end(0), 343);
        PermitWeave seasons = Offices.town();
        seasons.apply(0, 0, 520, 20, NONE, false);
        seasons.apply(0, 0, 510, 2, NONE, true);
        due.is("LONG comes before TWICE", causeOf(seasons, 0, 0, 490, 40, NONE, false), PermitWeave.LONG);
        due.is("TWICE else", causeOf(seasons, 0, 0, 530, 20, NONE, false), PermitWeave.TWICE);
    }

    private static void promise10Twice() {
        PermitWeave x = Offices.town();
        x.apply(0, 0, 100, 10, NONE, false);
        due.is("another opening in the season", causeOf(x, 0, 0, 110, 5, NONE, false), PermitWeave.TWICE);
        due.is("just before", causeOf(x, 0, 0, 95, 5, NONE, false), PermitWeave.TWICE);
        due.is("in the last hour of the season", causeOf(x, 0, 0, 499, 5, NONE, false), PermitWeave.TWICE);
        due.is("in the next season", causeOf(x, 0, 0, 500, 5, NONE, false), NONE);
        due.is("on another lane", causeOf(x, 0, 1, 110, 5, NONE, false), NONE);
        due.is("urgent", causeOf(x, 0, 0, 110, 5, NONE, true), NONE);
        due.is("beside an urgent one now", causeOf(x, 0, 0, 100, 1, NONE, false), PermitWeave.TWICE);
        x.withdraw(6);
        due.is("that is there no more", causeOf(x, 0, 0, 100, 1, NONE, false), NONE);
        x.begin(0);
        x.finish(0);
        due.is("DONE ones are there", causeOf(x, 0, 0, 120, 1, NONE, false), PermitWeave.TWICE);
        due.is("put together with DONE", causeOf(x, 0, 0, 109, 5, NONE, false), NONE);
        due.is("stretched into another season", causeOf(x, 0, 0, 498, 4, NONE, false), PermitWeave.TWICE);
        PermitWeave urgent = Offices.town();
        urgent.apply(0, 0, 600, 10, NONE, true);
        due.is("beside an urgent opening", causeOf(urgent, 0, 0, 605, 1, NONE, false), PermitWeave.TWICE);
        PermitWeave before = Offices.town();
        before.apply(0, 0, 501, 10, NONE, false);
        before.apply(0, 0, 490, 1, NONE, true);
        due.is("its own first hour would be 500", causeOf(before, 0, 0, 500, 4, NONE, false), NONE);
        due.is("its own first hour would be 499", causeOf(before, 0, 0, 499, 4, NONE, false), PermitWeave.TWICE);
        before.withdraw(1);
        due.is("with the opening alone", causeOf(before, 0, 0, 499, 4, NONE, false), NONE);
        due.is("the opening is of the season 0", before.openings(0, 0), 1);
        due.is("the season 1 is free", causeOf(before, 0, 0, 600, 4, NONE, false), NONE);
    }

    private static void promise10Together() {
        PermitWeave x = Offices.town();
        x.apply(0, 0, 494, 4, NONE, false);
        x.apply(1, 0, 503, 4, NONE, false);
        x.apply(2, 0, 497, 7, NONE, false);
        due.is("with the lowest permit of those that it meets", x.together(2), 5);
        due.is("the first opening", 1000 * x.from(0) + x.end(0), 494504);
        due.is("the second is left", 1000 * x.from(1) + x.end(1), 503507);
        x.apply(3, 0, 503, 1, NONE, false);
        due.is("of two that it meets the one of the lowest permit", x.together(3), 0b1101);
        x.withdraw(0);
        due.is("the lowest permit is VOID", x.together(2), 0b1100);
        due.is("now the second has the lowest permit", causeOf(x, 4, 0, 503, 2, NONE, false), NONE);
        due.is("together with that", x.together(4), 0b10010);
        PermitWeave y = Offices.town();
        y.apply(0, 0, 10, 5, NONE, true);
        due.is("urgent with urgent", causeOf(y, 0, 0, 10, 5, NONE, true), NONE);
        due.is("is not put together", y.together(1), 2);
        y.apply(0, 1, 10, 5, NONE, false);
        y.apply(0, 1, 15, 5, NONE, false);
        due.is("no hour in common", y.cause(3), PermitWeave.TWICE);
        y.apply(0, 1, 14, 5, NONE, false);
        due.is("one hour in common", y.together(4), 0b10100);
        y.apply(0, 1, 18, 1, NONE, false);
        due.is("with the hours that it has now", y.together(5), 0b110100);
        y.apply(0, 2, 14, 5, NONE, false);
        due.is("on another lane", y.together(6), 0b1000000);
    }

    private static void promise11Withdraw() {
        PermitWeave x = Offices.town();
        x.apply(0, 0, 10, 5, NONE, false);
        for (int wrong : new int[] {LOWEST, -1, 1, HIGHEST}) {
            due.throwsBounds("withdraw " + wrong, () -> x.withdraw(wrong));
        }
        x.apply(0, 1, 15, 5, 0, false);
        x.apply(0, 2, 20, 5, 1, false);
        x.apply(0, 3, 20, 5, 1, false);
        x.apply(0, 4, 10, 5, 1, false);
        x.apply(0, 4, 10, 5, NONE, false);
        due.throwsState("withdraw a REFUSED one", () -> x.withdraw(4));
        due.is("the last of a chain", x.withdraw(3), 1);
        due.throwsState("withdraw a VOID one", () -> x.withdraw(3));
        due.is("a chain of three", x.withdraw(0), 3);
        due.is("its states", x.state(0) + 10 * x.state(1) + 100 * x.state(2) + 1000 * x.state(3), 4444);
        due.is("a REFUSED one stays", x.state(4), PermitWeave.REFUSED);
        due.is("one that needs none stays", x.state(5), PermitWeave.GRANTED);
        x.begin(5);
        due.throwsState("withdraw an OPEN one", () -> x.withdraw(5));
        x.finish(5);
        due.throwsState("withdraw a DONE one", () -> x.withdraw(5));
        x.apply(0, 1, 600, 5, 5, false);
        due.is("the needed one is left", x.withdraw(6), 1);
        due.is("DONE as before", x.state(5), PermitWeave.DONE);
        PermitWeave all = Offices.town();
        all.apply(0, 0, 0, 1, NONE, true);
        for (int k = 1; k < 40; k++) {
            all.apply(0, 0, k, 1, k - 1, true);
        }
        due.is("40 in a chain", all.withdraw(0), 40);
        due.is("its last", all.state(39), PermitWeave.VOID);
    }

    private static void promise12Begin() {
        PermitWeave x = Offices.town();
        x.apply(0, 0, 10, 5, NONE, false);
        for (int wrong : new int[] {LOWEST, -1, 1, HIGHEST}) {
            due.throwsBounds("begin " + wrong, () -> x.begin(wrong));
        }
        x.apply(0, 1, 15, 5, 0, false);
        due.throwsState("its need is GRANTED", () -> x.begin(1));
        due.is("10 hours early", x.begin(0), 10);
        due.is("it is OPEN", x.state(0), PermitWeave.OPEN);
        due.throwsState("begin an OPEN one", () -> x.begin(0));
        due.throwsState("its need is OPEN", () -> x.begin(1));
        finishAfter(x, 0, 15);
        due.throwsState("begin a DONE one", () -> x.begin(0));
        due.is("its need is DONE, it is in time", x.begin(1), 0);
        x.apply(0, 2, 20, 5, NONE, false);
        x.pass(100);
        due.is("95 hours late", x.begin(2), -95);
        x.apply(0, 2, 116, 1, NONE, false);
        due.throwsState("begin a REFUSED one", () -> x.begin(3));
        x.apply(0, 3, 130, 2, NONE, false);
        x.apply(0, 3, 125, 8, NONE, false);
        due.is("by the hours of its opening", x.begin(4), 10);
        x.withdraw(5);
        due.throwsState("begin a VOID one", () -> x.begin(5));
    }

    private static void promise13Finish() {
        PermitWeave x = Offices.street();
        x.apply(0, 0, 0, 5, NONE, true);
        for (int wrong : new int[] {LOWEST, -1, 1, HIGHEST}) {
            due.throwsBounds("finish " + wrong, () -> x.finish(wrong));
        }
        due.throwsState("finish a GRANTED one", () -> x.finish(0));
        x.begin(0);
        x.pass(7);
        due.is("2 hours beside, 30 each, 2 for a minute", x.finish(0), 120);
        due.is("it is DONE", x.state(0), PermitWeave.DONE);
        due.is("its lane is not closed", x.isClosed(0), false);
        due.throwsState("finish a DONE one", () -> x.finish(0));
        x.apply(0, 0, 20, 5, NONE, true);
        x.withdraw(1);
        due.throwsState("finish a VOID one", () -> x.finish(1));
        x.apply(0, 0, 8, 5, NONE, false);
        due.throwsState("finish a REFUSED one", () -> x.finish(2));
        due.is("no hour, no fine", x.finish(Offices.dig(x, 0, 0, 100, 1)), 0);
        due.is("a dig that is DONE is fined no more", x.pass(1) + x.fine(0), 128);
    }

    private static void promises14To17StateCauseFromEnd() {
        PermitWeave x = Offices.town();
        x.apply(0, 0, 10, 5, NONE, false);
        for (int wrong : new int[] {LOWEST, -1, 1, HIGHEST}) {
            due.throwsBounds("state " + wrong, () -> x.state(wrong));
            due.throwsBounds("cause " + wrong, () -> x.cause(wrong));
            due.throwsBounds("from " + wrong, () -> x.from(wrong));
            due.throwsBounds("end " + wrong, () -> x.end(wrong));
            due.throwsBounds("together " + wrong, () -> x.together(wrong));
            due.throwsBounds("fee " + wrong, () -> x.fee(wrong));
            due.throwsBounds("fine " + wrong, () -> x.fine(wrong));
        }
        x.apply(0, 0, 12, 8, NONE, false);
        x.apply(0, 0, 1, 12, NONE, false);
        x.apply(0, 0, 30, 12, NONE, false);
        due.is("GRANTED", x.state(0), PermitWeave.GRANTED);
        due.is("LATE", x.cause(2), PermitWeave.LATE);
        due.is("TWICE", x.cause(3), PermitWeave.TWICE);
        due.is("no cause", x.cause(0), NONE);
        due.is("the first hour of the opening", x.from(1), 10);
        due.is("the end of the opening", x.end(0), 20);
        due.is("a REFUSED one's from", x.from(2), 1);
        due.is("a REFUSED one's end", x.end(3), 42);
        x.withdraw(0);
        due.is("a VOID one's state", x.state(0), PermitWeave.VOID);
        due.is("a VOID one's cause", x.cause(0), NONE);
        x.apply(0, 0, 5, 6, NONE, false);
        due.is("the opening of a VOID one grows", x.from(0), 5);
        x.apply(0, 0, 19, 5, NONE, false);
        due.is("at both ends", x.end(0), 24);
        x.begin(1);
        due.is("OPEN", x.state(1), PermitWeave.OPEN);
        x.finish(1);
        due.is("DONE", x.state(1), PermitWeave.DONE);
        due.is("DONE has no cause", x.cause(1), NONE);
        due.is("DONE keeps its hours", x.end(1), 24);
    }

    private static void promise18Together() {
        PermitWeave x = Offices.town();
        x.apply(0, 0, 10, 5, NONE, false);
        x.apply(0, 0, 12, 8, NONE, false);
        x.apply(0, 0, 30, 8, NONE, false);
        x.apply(0, 0, 13, 1, NONE, false);
        due.is("three together", x.together(1), 0b1011);
        due.is("REFUSED, with none", x.together(2), 0);
        x.begin(1);
        due.is("OPEN ones count", x.together(0), 0b1011);
        x.finish(1);
        due.is("DONE ones count", x.together(3), 0b1011);
        x.withdraw(0);
        due.is("VOID ones do not", x.together(3), 0b1010);
        due.is("the others of a VOID one's opening", x.together(0), 0b1010);
        x.apply(0, 1, 10, 5, NONE, false);
        x.withdraw(4);
        due.is("alone and VOID", x.together(4), 0);
        for (int k = 5; k < 40; k++) {
            x.apply(0, 2, 10, 5, NONE, false);
        }
        due.is("up to bit 39", x.together(5), (1L << 40) - (1L << 5));
    }

    private static void promise19Openings() {
        PermitWeave x = Offices.street();
        for (int wrong : new int[] {LOWEST, -1, 2, HIGHEST}) {
            due.throwsBounds("openings of lane " + wrong, () -> x.openings(wrong, 0));
            due.throwsBounds("the lane comes before the season", () -> x.openings(wrong, -1));
        }
        for (int wrong : new int[] {LOWEST, -1, 11, HIGHEST}) {
            due.throwsArgument("openings in season " + wrong, () -> x.openings(0, wrong));
        }
        due.is("none", x.openings(0, 0), 0);
        x.apply(0, 0, 498, 5, NONE, false);
        x.apply(0, 0, 499, 5, NONE, false);
        x.apply(0, 0, 400, 5, NONE, false);
        due.is("two are one opening, a REFUSED one none", x.openings(0, 0), 1);
        x.apply(0, 0, 499, 5, NONE, true);
        x.apply(0, 0, 500, 5, NONE, true);
        due.is("an urgent one has its own", x.openings(0, 0), 2);
        due.is("by the first hour", x.openings(0, 1), 1);
        due.is("of this lane", x.openings(1, 0), 0);
        x.withdraw(0);
        due.is("one of the two is there", x.openings(0, 0), 2);
        x.withdraw(1);
        due.is("it is there no more", x.openings(0, 0), 1);
        x.begin(3);
        x.finish(3);
        due.is("a DONE one is there", x.openings(0, 0), 1);
        x.apply(0, 1, 4900, 40, NONE, false);
        due.is("season 9", x.openings(1, 9), 1);
        due.is("season 10", x.openings(1, 10), 0);
    }

    private static void promise20Fee() {
        PermitWeave x = Offices.town();
        x.apply(0, 0, 10, 1, NONE, false);
        due.is("one hour", x.fee(0), 1100);
        x.apply(0, 0, 10, 9, NONE, false);
        x.apply(0, 0, 17, 3, NONE, false);
        due.is("the lowest pays what is left", x.fee(0), 668);
        due.is("the others share", x.fee(1) + x.fee(2), 2 * 666);
        x.apply(0, 0, 100, 3, NONE, false);
        due.is("REFUSED pays nothing", x.fee(3), 0);
        x.withdraw(0);
        due.is("VOID pays nothing", x.fee(0), 0);
        due.is("two share", x.fee(1) + 10000 * x.fee(2), 10001000);
        x.begin(1);
        x.finish(1);
        due.is("DONE pays as well", x.fee(1), 1000);
        x.apply(0, 0, 19, 2, NONE, false);
        due.is("2100 among three", x.fee(1), 700);
        x.apply(0, 0, 20, 1, NONE, false);
        x.apply(0, 0, 20, 2, NONE, false);
        x.apply(0, 0, 20, 2, NONE, false);
        due.is("2200 among six, the lowest", x.fee(1), 370);
        due.is("2200 among six", x.fee(7), 366);
        x.apply(0, 1, 4900, 40, NONE, true);
        due.is("40 hours", x.fee(8), 5000);
    }

    private static void promise21Pass() {
        PermitWeave x = new PermitWeave();
        for (int wrong : new int[] {LOWEST, -1, 0, 201, HIGHEST}) {
            due.throwsArgument("pass " + wrong, () -> x.pass(wrong));
        }
        due.is("pass 1", x.pass(1), 1);
        for (int k = 1; k < 25; k++) {
            due.is("pass 200", x.pass(200), 200 * k + 1);
        }
        due.throwsState("to 5001", () -> x.pass(200));
        due.is("to 5000", x.pass(199), 5000);
        due.throwsState("behind 5000", () -> x.pass(1));
        due.throwsArgument("the range comes before the end", () -> x.pass(201));
        digsBesideTheirHours();
        digsThatCostNothing();
        pointsAreForgiven();
        openingsGrowUnderADig();
    }

    private static void digsBesideTheirHours() {
        PermitWeave x = Offices.street();
        x.line(1, 20);
        x.stop(1, 0);
        int permit = Offices.dig(x, 3, 0, 2, 3);
        x.pass(2);
        due.is("2 hours early, 30 passengers, 3 minutes", x.fine(permit), 2 * 2 * 90);
        due.is("a point for each hour", x.points(3), 2);
        x.pass(3);
        due.is("in its hours", x.fine(permit), 360);
        x.pass(1);
        due.is("an hour late", x.fine(permit), 540);
        due.is("and a point", x.points(3), 3);
        due.is("others get none", x.points(2), 0);
        Offices.dig(x, 3, 0, 100, 3);
        x.pass(10);
        due.is("another is OPEN on its lane", x.fine(permit), 540);
        x.finish(permit);
        int second = Offices.dig(x, 3, 1, 100, 3);
        x.pass(1);
        due.is("what one of two lanes costs, the way over the other gone", x.fine(second), 2 * 57 * 30);
        due.is("and the other", x.fine(1), 2 * 60 * 30);
        due.is("a point for each permit", x.points(3), 5);
    }

    private static void digsThatCostNothing() {
        PermitWeave x = Offices.ring();
        int straight = Offices.dig(x, 0, 0, 50, 1);
        due.is("round, 89 more", x.detour(0), 89);
        int round = Offices.dig(x, 1, 2, 50, 1);
        x.pass(1);
        due.is("the second dig costs -29: no fine", x.fine(round), 0);
        due.is("and no point", x.points(1), 0);
        due.is("the first costs 60", x.fine(straight), 2 * 60 * 10);
        due.is("nobody is blamed for below 0", x.complain(0), 1);
        due.is("but the first", x.points(0), 2);
        PermitWeave empty = new PermitWeave();
        empty.lane(0, 1, 1);
        empty.line(0, 0);
        empty.stop(0, 1);
        Offices.dig(empty, 0, 0, 50, 1);
        empty.pass(1);
        due.is("no passengers, no fine", empty.fine(0) + empty.points(0) + empty.minutes(0), 0);
        due.is("a detour all the same", empty.complain(0), 1);
        PermitWeave least = new PermitWeave();
        least.lane(0, 1, 1);
        least.lane(0, 1, 2);
        least.line(0, 1);
        least.stop(0, 1);
        Offices.dig(least, 0, 0, 50, 1);
        least.pass(1);
        due.is("a single minute is above 0", least.fine(0) + 10 * least.points(0), 12);
        linesAreWeighedTogether();
    }

    private static void linesAreWeighedTogether() {
        PermitWeave x = Offices.ring();
        x.line(2, 2);
        x.stop(1, 3);
        Offices.dig(x, 0, 0, 50, 1);
        int round = Offices.dig(x, 1, 2, 50, 1);
        x.pass(1);
        due.is("-290 and 120 together are below 0", x.fine(round) + x.points(1), 0);
        x = Offices.ring();
        x.line(2, 5);
        x.stop(1, 3);
        Offices.dig(x, 0, 0, 50, 1);
        round = Offices.dig(x, 1, 2, 50, 1);
        x.pass(1);
        due.is("-290 and 300 together are 10", x.fine(round), 20);
        due.is("and a point", x.points(1), 1);
    }

    private static void pointsAreForgiven() {
        PermitWeave x = Offices.street();
        int permit = Offices.dig(x, 0, 0, 4900, 1);
        x.pass(99);
        due.is("99 hours", x.points(0), 99);
        x.pass(1);
        due.is("a point more, and one less", x.points(0), 99);
        x.finish(permit);
        x.pass(99);
        due.is("199 hours", x.points(0), 99);
        x.pass(1);
        due.is("200 hours", x.points(0), 98);
        due.is("not below 0", x.points(1), 0);
        x.complain(0);
        Offices.dig(x, 1, 0, 4900, 1);
        x.complain(0);
        x.finish(1);
        due.is("one point", x.points(1), 1);
        x.pass(200);
        due.is("one point is forgiven", x.points(1), 0);
        due.is("400 hours", x.points(0), 96);
        due.is("the fine stays", x.fine(permit), 100 * 60);
        due.is("LATE by 96 points", causeOf(x, 0, 1, 400 + 289, 1, NONE, false), PermitWeave.LATE);
        due.is("not LATE by 96 points", causeOf(x, 0, 1, 400 + 290, 1, NONE, false), NONE);
    }

    private static void openingsGrowUnderADig() {
        PermitWeave x = Offices.street();
        int permit = x.apply(0, 0, 10, 2, NONE, false);
        x.begin(permit);
        x.pass(9);
        due.is("9 hours early", x.fine(permit), 9 * 60);
        x.pass(2);
        x.apply(1, 0, 11, 5, NONE, true);
        due.is("urgent ones stretch nothing", x.end(permit), 12);
        x.withdraw(1);
        x.pass(1);
        x.apply(1, 0, 14, 3, NONE, false);
        due.is("no hour in common", x.state(2), PermitWeave.REFUSED);
        x.pass(1);
        due.is("two hours within, one beside", x.fine(permit), 10 * 60 + 60);
        PermitWeave y = Offices.street();
        y.apply(0, 0, 10, 2, NONE, false);
        y.apply(1, 0, 11, 9, NONE, false);
        y.begin(0);
        y.withdraw(1);
        y.pass(20);
        due.is("the hours of the opening, not its own", y.fine(0), 10 * 60);
        y.pass(1);
        due.is("from its end on", y.fine(0), 11 * 60);
    }

    private static void promise22Complain() {
        PermitWeave x = Offices.town();
        x.line(1, 0);
        x.stop(0, 3);
        x.line(0, 5);
        x.stop(1, 1);
        for (int wrong : new int[] {LOWEST, -1, 2, HIGHEST}) {
            due.throwsBounds("complain of line " + wrong, () -> x.complain(wrong));
        }
        due.is("about nothing", x.complain(0), 0);
        Offices.dig(x, 2, 1, 0, 10);
        due.is("about a dig in its hours", x.complain(0), 1);
        due.is("a point", x.points(2), 1);
        due.is("the other line has no reason", x.complain(1), 0);
        Offices.dig(x, 2, 4, 0, 10);
        due.is("one for both permits", x.complain(0), 1);
        due.is("one point more", x.points(2), 2);
        Offices.dig(x, 3, 0, 0, 10);
        due.is("two applicants", x.complain(0), 2);
        due.is("the other's point", x.points(3), 1);
        due.is("a dig on the way round is blamed as well", x.complain(1), 2);
        due.is("its points", x.points(2) + 10 * x.points(3), 24);
        x.apply(5, 3, 100, 1, NONE, false);
        due.is("GRANTED ones are not blamed", x.complain(0) + 10 * x.points(5), 2);
        PermitWeave street = Offices.street();
        Offices.dig(street, 3, 0, 0, 10);
        Offices.dig(street, 4, 0, 0, 10);
        due.is("two on a lane cost 0 each", street.complain(0), 0);
        street.finish(0);
        due.is("the one that is left", street.complain(0), 1);
        due.is("is the other", street.points(4) + 10 * street.points(3), 1);
    }

    private static void promises23To25PointsFineFines() {
        PermitWeave x = Offices.street();
        for (int wrong : new int[] {LOWEST, -1, 6, HIGHEST}) {
            due.throwsBounds("points of applicant " + wrong, () -> x.points(wrong));
            due.throwsBounds("fines of applicant " + wrong, () -> x.fines(wrong));
        }
        due.throwsBounds("fine of no permit", () -> x.fine(0));
        int first = Offices.dig(x, 5, 0, 10, 1);
        x.apply(5, 1, 10, 1, NONE, false);
        x.pass(1);
        due.is("fine of an OPEN one so far", x.fine(first), 60);
        due.is("fine of a GRANTED one", x.fine(1), 0);
        x.finish(first);
        x.begin(1);
        x.pass(2);
        due.is("a dig on the slower lane costs nothing", x.fines(5), 60);
        int third = Offices.dig(x, 5, 0, 10, 1);
        int other = Offices.dig(x, 0, 0, 10, 1);
        x.finish(other);
        x.pass(1);
        due.is("no way: 60 more for 10, for each", x.fine(third), 1200);
        due.is("57 more than with the quicker one", x.fine(1), 2 * 10 * 57);
        due.is("all together", x.fines(5), 60 + 1200 + 1140);
        due.is("the other's", x.fines(0), 0);
        due.is("points of all permits", x.points(5), 3);
        PermitWeave dear = dearest();
        due.is("a fine above what an int holds", dear.fines(0), dear.fine(0) + dear.fine(1));
    }

    public static void main(String[] args) {
        promise1NewObject();
        promise2Lane();
        promise3Line();
        promise4Stop();
        promise5Way();
        promise6IsClosed();
        promise7Detour();
        promise8Minutes();
        promise9MinutesAnew();
        promise10Apply();
        promise10Late();
        promise10Chain();
        promise10Long();
        promise10Twice();
        promise10Together();
        promise11Withdraw();
        promise12Begin();
        promise13Finish();
        promises14To17StateCauseFromEnd();
        promise18Together();
        promise19Openings();
        promise20Fee();
        promise21Pass();
        promise22Complain();
        promises23To25PointsFineFines();
        due.end();
    }
}
